theorem dX0_init_0 : decode cX0_init 0 = .ok (.aload_n 0, 1) := by decide +kernel
theorem dX0_init_1 : decode cX0_init 1 = .ok (.invokespecial 3, 3) := by decide +kernel
theorem dX0_init_4 : decode cX0_init 4 = .ok (.return_, 1) := by decide +kernel
theorem dX1_init_0 : decode cX1_init 0 = .ok (.aload_n 0, 1) := by decide +kernel
theorem dX1_init_1 : decode cX1_init 1 = .ok (.invokespecial 3, 3) := by decide +kernel
theorem dX1_init_4 : decode cX1_init 4 = .ok (.aload_n 0, 1) := by decide +kernel
theorem dX1_init_5 : decode cX1_init 5 = .ok (.bipush 64, 2) := by decide +kernel
theorem dX1_init_7 : decode cX1_init 7 = .ok (.newarray .int, 2) := by decide +kernel
theorem dX1_init_9 : decode cX1_init 9 = .ok (.putfield 9, 3) := by decide +kernel
theorem dX1_init_12 : decode cX1_init 12 = .ok (.return_, 1) := by decide +kernel
theorem dX2_init_0 : decode cX2_init 0 = .ok (.aload_n 0, 1) := by decide +kernel
theorem dX2_init_1 : decode cX2_init 1 = .ok (.invokespecial 3, 3) := by decide +kernel
theorem dX2_init_4 : decode cX2_init 4 = .ok (.return_, 1) := by decide +kernel
theorem dX2_carried_0 : decode cX2_carried 0 = .ok (.aload_n 0, 1) := by decide +kernel
theorem dX2_carried_1 : decode cX2_carried 1 = .ok (.getfield 9, 3) := by decide +kernel
theorem dX2_carried_4 : decode cX2_carried 4 = .ok (.i2l, 1) := by decide +kernel
theorem dX2_carried_5 : decode cX2_carried 5 = .ok (.aload_n 0, 1) := by decide +kernel
theorem dX2_carried_6 : decode cX2_carried 6 = .ok (.getfield 15, 3) := by decide +kernel
theorem dX2_carried_9 : decode cX2_carried 9 = .ok (.bipush 20, 2) := by decide +kernel
theorem dX2_carried_11 : decode cX2_carried 11 = .ok (.iadd, 1) := by decide +kernel
theorem dX2_carried_12 : decode cX2_carried 12 = .ok (.i2l, 1) := by decide +kernel
theorem dX2_carried_13 : decode cX2_carried 13 = .ok (.lmul, 1) := by decide +kernel
theorem dX2_carried_14 : decode cX2_carried 14 = .ok (.lreturn, 1) := by decide +kernel
theorem dX2_isNear_0 : decode cX2_isNear 0 = .ok (.aload_n 0, 1) := by decide +kernel
theorem dX2_isNear_1 : decode cX2_isNear 1 = .ok (.getfield 15, 3) := by decide +kernel
theorem dX2_isNear_4 : decode cX2_isNear 4 = .ok (.iload_n 1, 1) := by decide +kernel
theorem dX2_isNear_5 : decode cX2_isNear 5 = .ok (.isub, 1) := by decide +kernel
theorem dX2_isNear_6 : decode cX2_isNear 6 = .ok (.invokestatic 18, 3) := by decide +kernel
theorem dX2_isNear_9 : decode cX2_isNear 9 = .ok (.iload_n 3, 1) := by decide +kernel
theorem dX2_isNear_10 : decode cX2_isNear 10 = .ok (.if_icmp .gt 20, 3) := by decide +kernel
theorem dX2_isNear_13 : decode cX2_isNear 13 = .ok (.aload_n 0, 1) := by decide +kernel
theorem dX2_isNear_14 : decode cX2_isNear 14 = .ok (.getfield 24, 3) := by decide +kernel
theorem dX2_isNear_17 : decode cX2_isNear 17 = .ok (.iload_n 2, 1) := by decide +kernel
theorem dX2_isNear_18 : decode cX2_isNear 18 = .ok (.invokestatic 27, 3) := by decide +kernel
theorem dX2_isNear_21 : decode cX2_isNear 21 = .ok (.iload 4, 2) := by decide +kernel
theorem dX2_isNear_23 : decode cX2_isNear 23 = .ok (.if_icmp .gt 7, 3) := by decide +kernel
theorem dX2_isNear_26 : decode cX2_isNear 26 = .ok (.iconst 1, 1) := by decide +kernel
theorem dX2_isNear_27 : decode cX2_isNear 27 = .ok (.goto 4, 3) := by decide +kernel
theorem dX2_isNear_30 : decode cX2_isNear 30 = .ok (.iconst 0, 1) := by decide +kernel
theorem dX2_isNear_31 : decode cX2_isNear 31 = .ok (.ireturn, 1) := by decide +kernel
theorem dX2_mayMeet_0 : decode cX2_mayMeet 0 = .ok (.aload_n 0, 1) := by decide +kernel
theorem dX2_mayMeet_1 : decode cX2_mayMeet 1 = .ok (.getfield 31, 3) := by decide +kernel
theorem dX2_mayMeet_4 : decode cX2_mayMeet 4 = .ok (.ifCond .eq 14, 3) := by decide +kernel
theorem dX2_mayMeet_7 : decode cX2_mayMeet 7 = .ok (.aload_n 0, 1) := by decide +kernel
theorem dX2_mayMeet_8 : decode cX2_mayMeet 8 = .ok (.getfield 35, 3) := by decide +kernel
theorem dX2_mayMeet_11 : decode cX2_mayMeet 11 = .ok (.ifCond .ne 7, 3) := by decide +kernel
theorem dX2_mayMeet_14 : decode cX2_mayMeet 14 = .ok (.iconst 1, 1) := by decide +kernel
theorem dX2_mayMeet_15 : decode cX2_mayMeet 15 = .ok (.goto 4, 3) := by decide +kernel
theorem dX2_mayMeet_18 : decode cX2_mayMeet 18 = .ok (.iconst 0, 1) := by decide +kernel
theorem dX2_mayMeet_19 : decode cX2_mayMeet 19 = .ok (.ireturn, 1) := by decide +kernel
theorem dX3_init_0 : decode cX3_init 0 = .ok (.aload_n 0, 1) := by decide +kernel
theorem dX3_init_1 : decode cX3_init 1 = .ok (.invokespecial 3, 3) := by decide +kernel
theorem dX3_init_4 : decode cX3_init 4 = .ok (.aload_n 0, 1) := by decide +kernel
theorem dX3_init_5 : decode cX3_init 5 = .ok (.new 9, 3) := by decide +kernel
theorem dX3_init_8 : decode cX3_init 8 = .ok (.dup, 1) := by decide +kernel
theorem dX3_init_9 : decode cX3_init 9 = .ok (.invokespecial 11, 3) := by decide +kernel
theorem dX3_init_12 : decode cX3_init 12 = .ok (.putfield 12, 3) := by decide +kernel
theorem dX3_init_15 : decode cX3_init 15 = .ok (.aload_n 0, 1) := by decide +kernel
theorem dX3_init_16 : decode cX3_init 16 = .ok (.new 18, 3) := by decide +kernel
theorem dX3_init_19 : decode cX3_init 19 = .ok (.dup, 1) := by decide +kernel
theorem dX3_init_20 : decode cX3_init 20 = .ok (.invokespecial 20, 3) := by decide +kernel
theorem dX3_init_23 : decode cX3_init 23 = .ok (.putfield 21, 3) := by decide +kernel
theorem dX3_init_26 : decode cX3_init 26 = .ok (.aload_n 0, 1) := by decide +kernel
theorem dX3_init_27 : decode cX3_init 27 = .ok (.bipush 80, 2) := by decide +kernel
theorem dX3_init_29 : decode cX3_init 29 = .ok (.anewarray 25, 3) := by decide +kernel
theorem dX3_init_32 : decode cX3_init 32 = .ok (.putfield 27, 3) := by decide +kernel
theorem dX3_init_35 : decode cX3_init 35 = .ok (.iconst 0, 1) := by decide +kernel
theorem dX3_init_36 : decode cX3_init 36 = .ok (.istore_n 1, 1) := by decide +kernel
theorem dX3_init_37 : decode cX3_init 37 = .ok (.iload_n 1, 1) := by decide +kernel
theorem dX3_init_38 : decode cX3_init 38 = .ok (.bipush 80, 2) := by decide +kernel
theorem dX3_init_40 : decode cX3_init 40 = .ok (.if_icmp .ge 22, 3) := by decide +kernel
theorem dX3_init_43 : decode cX3_init 43 = .ok (.aload_n 0, 1) := by decide +kernel
theorem dX3_init_44 : decode cX3_init 44 = .ok (.getfield 27, 3) := by decide +kernel
theorem dX3_init_47 : decode cX3_init 47 = .ok (.iload_n 1, 1) := by decide +kernel
theorem dX3_init_48 : decode cX3_init 48 = .ok (.new 25, 3) := by decide +kernel
theorem dX3_init_51 : decode cX3_init 51 = .ok (.dup, 1) := by decide +kernel
theorem dX3_init_52 : decode cX3_init 52 = .ok (.invokespecial 31, 3) := by decide +kernel
theorem dX3_init_55 : decode cX3_init 55 = .ok (.aastore, 1) := by decide +kernel
theorem dX3_init_56 : decode cX3_init 56 = .ok (.iinc 1 1, 3) := by decide +kernel
theorem dX3_init_59 : decode cX3_init 59 = .ok (.goto (-22), 3) := by decide +kernel
theorem dX3_init_62 : decode cX3_init 62 = .ok (.aload_n 0, 1) := by decide +kernel
theorem dX3_init_63 : decode cX3_init 63 = .ok (.bipush 20, 2) := by decide +kernel
theorem dX3_init_65 : decode cX3_init 65 = .ok (.putfield 32, 3) := by decide +kernel
theorem dX3_init_68 : decode cX3_init 68 = .ok (.aload_n 0, 1) := by decide +kernel
theorem dX3_init_69 : decode cX3_init 69 = .ok (.bipush 80, 2) := by decide +kernel
theorem dX3_init_71 : decode cX3_init 71 = .ok (.putfield 36, 3) := by decide +kernel
theorem dX3_init_74 : decode cX3_init 74 = .ok (.aload_n 0, 1) := by decide +kernel
theorem dX3_init_75 : decode cX3_init 75 = .ok (.bipush 50, 2) := by decide +kernel
theorem dX3_init_77 : decode cX3_init 77 = .ok (.putfield 39, 3) := by decide +kernel
theorem dX3_init_80 : decode cX3_init 80 = .ok (.return_, 1) := by decide +kernel
theorem dX3_put_0 : decode cX3_put 0 = .ok (.aload_n 0, 1) := by decide +kernel
theorem dX3_put_1 : decode cX3_put 1 = .ok (.getfield 27, 3) := by decide +kernel
theorem dX3_put_4 : decode cX3_put 4 = .ok (.aload_n 0, 1) := by decide +kernel
theorem dX3_put_5 : decode cX3_put 5 = .ok (.getfield 42, 3) := by decide +kernel
theorem dX3_put_8 : decode cX3_put 8 = .ok (.aaload, 1) := by decide +kernel
theorem dX3_put_9 : decode cX3_put 9 = .ok (.astore 5, 2) := by decide +kernel
theorem dX3_put_11 : decode cX3_put 11 = .ok (.aload 5, 2) := by decide +kernel
theorem dX3_put_13 : decode cX3_put 13 = .ok (.iload_n 1, 1) := by decide +kernel
theorem dX3_put_14 : decode cX3_put 14 = .ok (.putfield 45, 3) := by decide +kernel
theorem dX3_put_17 : decode cX3_put 17 = .ok (.aload 5, 2) := by decide +kernel
theorem dX3_put_19 : decode cX3_put 19 = .ok (.iload_n 2, 1) := by decide +kernel
theorem dX3_put_20 : decode cX3_put 20 = .ok (.putfield 48, 3) := by decide +kernel
theorem dX3_put_23 : decode cX3_put 23 = .ok (.aload 5, 2) := by decide +kernel
theorem dX3_put_25 : decode cX3_put 25 = .ok (.iload_n 3, 1) := by decide +kernel
theorem dX3_put_26 : decode cX3_put 26 = .ok (.putfield 51, 3) := by decide +kernel
theorem dX3_put_29 : decode cX3_put 29 = .ok (.aload 5, 2) := by decide +kernel
theorem dX3_put_31 : decode cX3_put 31 = .ok (.iload 4, 2) := by decide +kernel
theorem dX3_put_33 : decode cX3_put 33 = .ok (.putfield 54, 3) := by decide +kernel
theorem dX3_put_36 : decode cX3_put 36 = .ok (.aload 5, 2) := by decide +kernel
theorem dX3_put_38 : decode cX3_put 38 = .ok (.iconst 1, 1) := by decide +kernel
theorem dX3_put_39 : decode cX3_put 39 = .ok (.putfield 57, 3) := by decide +kernel
theorem dX3_put_42 : decode cX3_put 42 = .ok (.aload_n 0, 1) := by decide +kernel
theorem dX3_put_43 : decode cX3_put 43 = .ok (.getfield 21, 3) := by decide +kernel
theorem dX3_put_46 : decode cX3_put 46 = .ok (.dup, 1) := by decide +kernel
theorem dX3_put_47 : decode cX3_put 47 = .ok (.getfield 61, 3) := by decide +kernel
theorem dX3_put_50 : decode cX3_put 50 = .ok (.iload_n 3, 1) := by decide +kernel
theorem dX3_put_51 : decode cX3_put 51 = .ok (.iadd, 1) := by decide +kernel
theorem dX3_put_52 : decode cX3_put 52 = .ok (.putfield 61, 3) := by decide +kernel
theorem dX3_put_55 : decode cX3_put 55 = .ok (.aload_n 0, 1) := by decide +kernel
theorem dX3_put_56 : decode cX3_put 56 = .ok (.getfield 21, 3) := by decide +kernel
theorem dX3_put_59 : decode cX3_put 59 = .ok (.dup, 1) := by decide +kernel
theorem dX3_put_60 : decode cX3_put 60 = .ok (.getfield 64, 3) := by decide +kernel
theorem dX3_put_63 : decode cX3_put 63 = .ok (.aload 5, 2) := by decide +kernel
theorem dX3_put_65 : decode cX3_put 65 = .ok (.invokevirtual 68, 3) := by decide +kernel
theorem dX3_put_68 : decode cX3_put 68 = .ok (.ladd, 1) := by decide +kernel
theorem dX3_put_69 : decode cX3_put 69 = .ok (.putfield 64, 3) := by decide +kernel
theorem dX3_put_72 : decode cX3_put 72 = .ok (.aload_n 0, 1) := by decide +kernel
theorem dX3_put_73 : decode cX3_put 73 = .ok (.dup, 1) := by decide +kernel
theorem dX3_put_74 : decode cX3_put 74 = .ok (.getfield 42, 3) := by decide +kernel
theorem dX3_put_77 : decode cX3_put 77 = .ok (.iconst 1, 1) := by decide +kernel
theorem dX3_put_78 : decode cX3_put 78 = .ok (.iadd, 1) := by decide +kernel
theorem dX3_put_79 : decode cX3_put 79 = .ok (.putfield 42, 3) := by decide +kernel
theorem dX3_put_82 : decode cX3_put 82 = .ok (.aload_n 0, 1) := by decide +kernel
theorem dX3_put_83 : decode cX3_put 83 = .ok (.getfield 42, 3) := by decide +kernel
theorem dX3_put_86 : decode cX3_put 86 = .ok (.iconst 1, 1) := by decide +kernel
theorem dX3_put_87 : decode cX3_put 87 = .ok (.isub, 1) := by decide +kernel
theorem dX3_put_88 : decode cX3_put 88 = .ok (.ireturn, 1) := by decide +kernel
theorem dX3_countThere_0 : decode cX3_countThere 0 = .ok (.iconst 0, 1) := by decide +kernel
theorem dX3_countThere_1 : decode cX3_countThere 1 = .ok (.istore_n 1, 1) := by decide +kernel
theorem dX3_countThere_2 : decode cX3_countThere 2 = .ok (.aload_n 0, 1) := by decide +kernel
theorem dX3_countThere_3 : decode cX3_countThere 3 = .ok (.getfield 27, 3) := by decide +kernel
theorem dX3_countThere_6 : decode cX3_countThere 6 = .ok (.astore_n 2, 1) := by decide +kernel
theorem dX3_countThere_7 : decode cX3_countThere 7 = .ok (.aload_n 2, 1) := by decide +kernel
theorem dX3_countThere_8 : decode cX3_countThere 8 = .ok (.arraylength, 1) := by decide +kernel
theorem dX3_countThere_9 : decode cX3_countThere 9 = .ok (.istore_n 3, 1) := by decide +kernel
theorem dX3_countThere_10 : decode cX3_countThere 10 = .ok (.iconst 0, 1) := by decide +kernel
theorem dX3_countThere_11 : decode cX3_countThere 11 = .ok (.istore 4, 2) := by decide +kernel
theorem dX3_countThere_13 : decode cX3_countThere 13 = .ok (.iload 4, 2) := by decide +kernel
theorem dX3_countThere_15 : decode cX3_countThere 15 = .ok (.iload_n 3, 1) := by decide +kernel
theorem dX3_countThere_16 : decode cX3_countThere 16 = .ok (.if_icmp .ge 26, 3) := by decide +kernel
theorem dX3_countThere_19 : decode cX3_countThere 19 = .ok (.aload_n 2, 1) := by decide +kernel
theorem dX3_countThere_20 : decode cX3_countThere 20 = .ok (.iload 4, 2) := by decide +kernel
theorem dX3_countThere_22 : decode cX3_countThere 22 = .ok (.aaload, 1) := by decide +kernel
theorem dX3_countThere_23 : decode cX3_countThere 23 = .ok (.astore 5, 2) := by decide +kernel
theorem dX3_countThere_25 : decode cX3_countThere 25 = .ok (.aload 5, 2) := by decide +kernel
theorem dX3_countThere_27 : decode cX3_countThere 27 = .ok (.getfield 57, 3) := by decide +kernel
theorem dX3_countThere_30 : decode cX3_countThere 30 = .ok (.ifCond .eq 6, 3) := by decide +kernel
theorem dX3_countThere_33 : decode cX3_countThere 33 = .ok (.iinc 1 1, 3) := by decide +kernel
theorem dX3_countThere_36 : decode cX3_countThere 36 = .ok (.iinc 4 1, 3) := by decide +kernel
theorem dX3_countThere_39 : decode cX3_countThere 39 = .ok (.goto (-26), 3) := by decide +kernel
theorem dX3_countThere_42 : decode cX3_countThere 42 = .ok (.iload_n 1, 1) := by decide +kernel
theorem dX3_countThere_43 : decode cX3_countThere 43 = .ok (.ireturn, 1) := by decide +kernel
theorem dX3_massThere_0 : decode cX3_massThere 0 = .ok (.iconst 0, 1) := by decide +kernel
theorem dX3_massThere_1 : decode cX3_massThere 1 = .ok (.istore_n 1, 1) := by decide +kernel
theorem dX3_massThere_2 : decode cX3_massThere 2 = .ok (.aload_n 0, 1) := by decide +kernel
theorem dX3_massThere_3 : decode cX3_massThere 3 = .ok (.getfield 27, 3) := by decide +kernel
theorem dX3_massThere_6 : decode cX3_massThere 6 = .ok (.astore_n 2, 1) := by decide +kernel
theorem dX3_massThere_7 : decode cX3_massThere 7 = .ok (.aload_n 2, 1) := by decide +kernel
theorem dX3_massThere_8 : decode cX3_massThere 8 = .ok (.arraylength, 1) := by decide +kernel
theorem dX3_massThere_9 : decode cX3_massThere 9 = .ok (.istore_n 3, 1) := by decide +kernel
theorem dX3_massThere_10 : decode cX3_massThere 10 = .ok (.iconst 0, 1) := by decide +kernel
theorem dX3_massThere_11 : decode cX3_massThere 11 = .ok (.istore 4, 2) := by decide +kernel
theorem dX3_massThere_13 : decode cX3_massThere 13 = .ok (.iload 4, 2) := by decide +kernel
theorem dX3_massThere_15 : decode cX3_massThere 15 = .ok (.iload_n 3, 1) := by decide +kernel
theorem dX3_massThere_16 : decode cX3_massThere 16 = .ok (.if_icmp .ge 31, 3) := by decide +kernel
theorem dX3_massThere_19 : decode cX3_massThere 19 = .ok (.aload_n 2, 1) := by decide +kernel
theorem dX3_massThere_20 : decode cX3_massThere 20 = .ok (.iload 4, 2) := by decide +kernel
theorem dX3_massThere_22 : decode cX3_massThere 22 = .ok (.aaload, 1) := by decide +kernel
theorem dX3_massThere_23 : decode cX3_massThere 23 = .ok (.astore 5, 2) := by decide +kernel
theorem dX3_massThere_25 : decode cX3_massThere 25 = .ok (.aload 5, 2) := by decide +kernel
theorem dX3_massThere_27 : decode cX3_massThere 27 = .ok (.getfield 57, 3) := by decide +kernel
theorem dX3_massThere_30 : decode cX3_massThere 30 = .ok (.ifCond .eq 11, 3) := by decide +kernel
theorem dX3_massThere_33 : decode cX3_massThere 33 = .ok (.iload_n 1, 1) := by decide +kernel
theorem dX3_massThere_34 : decode cX3_massThere 34 = .ok (.aload 5, 2) := by decide +kernel
theorem dX3_massThere_36 : decode cX3_massThere 36 = .ok (.getfield 51, 3) := by decide +kernel
theorem dX3_massThere_39 : decode cX3_massThere 39 = .ok (.iadd, 1) := by decide +kernel
theorem dX3_massThere_40 : decode cX3_massThere 40 = .ok (.istore_n 1, 1) := by decide +kernel
theorem dX3_massThere_41 : decode cX3_massThere 41 = .ok (.iinc 4 1, 3) := by decide +kernel
theorem dX3_massThere_44 : decode cX3_massThere 44 = .ok (.goto (-31), 3) := by decide +kernel
theorem dX3_massThere_47 : decode cX3_massThere 47 = .ok (.iload_n 1, 1) := by decide +kernel
theorem dX3_massThere_48 : decode cX3_massThere 48 = .ok (.ireturn, 1) := by decide +kernel
theorem dX3_momentumThere_0 : decode cX3_momentumThere 0 = .ok (.lconst 0, 1) := by decide +kernel
theorem dX3_momentumThere_1 : decode cX3_momentumThere 1 = .ok (.lstore_n 1, 1) := by decide +kernel
theorem dX3_momentumThere_2 : decode cX3_momentumThere 2 = .ok (.aload_n 0, 1) := by decide +kernel
theorem dX3_momentumThere_3 : decode cX3_momentumThere 3 = .ok (.getfield 27, 3) := by decide +kernel
theorem dX3_momentumThere_6 : decode cX3_momentumThere 6 = .ok (.astore_n 3, 1) := by decide +kernel
theorem dX3_momentumThere_7 : decode cX3_momentumThere 7 = .ok (.aload_n 3, 1) := by decide +kernel
theorem dX3_momentumThere_8 : decode cX3_momentumThere 8 = .ok (.arraylength, 1) := by decide +kernel
theorem dX3_momentumThere_9 : decode cX3_momentumThere 9 = .ok (.istore 4, 2) := by decide +kernel
theorem dX3_momentumThere_11 : decode cX3_momentumThere 11 = .ok (.iconst 0, 1) := by decide +kernel
theorem dX3_momentumThere_12 : decode cX3_momentumThere 12 = .ok (.istore 5, 2) := by decide +kernel
theorem dX3_momentumThere_14 : decode cX3_momentumThere 14 = .ok (.iload 5, 2) := by decide +kernel
theorem dX3_momentumThere_16 : decode cX3_momentumThere 16 = .ok (.iload 4, 2) := by decide +kernel
theorem dX3_momentumThere_18 : decode cX3_momentumThere 18 = .ok (.if_icmp .ge 31, 3) := by decide +kernel
theorem dX3_momentumThere_21 : decode cX3_momentumThere 21 = .ok (.aload_n 3, 1) := by decide +kernel
theorem dX3_momentumThere_22 : decode cX3_momentumThere 22 = .ok (.iload 5, 2) := by decide +kernel
theorem dX3_momentumThere_24 : decode cX3_momentumThere 24 = .ok (.aaload, 1) := by decide +kernel
theorem dX3_momentumThere_25 : decode cX3_momentumThere 25 = .ok (.astore 6, 2) := by decide +kernel
theorem dX3_momentumThere_27 : decode cX3_momentumThere 27 = .ok (.aload 6, 2) := by decide +kernel
theorem dX3_momentumThere_29 : decode cX3_momentumThere 29 = .ok (.getfield 57, 3) := by decide +kernel
theorem dX3_momentumThere_32 : decode cX3_momentumThere 32 = .ok (.ifCond .eq 11, 3) := by decide +kernel
theorem dX3_momentumThere_35 : decode cX3_momentumThere 35 = .ok (.lload_n 1, 1) := by decide +kernel
theorem dX3_momentumThere_36 : decode cX3_momentumThere 36 = .ok (.aload 6, 2) := by decide +kernel
theorem dX3_momentumThere_38 : decode cX3_momentumThere 38 = .ok (.invokevirtual 68, 3) := by decide +kernel
theorem dX3_momentumThere_41 : decode cX3_momentumThere 41 = .ok (.ladd, 1) := by decide +kernel
theorem dX3_momentumThere_42 : decode cX3_momentumThere 42 = .ok (.lstore_n 1, 1) := by decide +kernel
theorem dX3_momentumThere_43 : decode cX3_momentumThere 43 = .ok (.iinc 5 1, 3) := by decide +kernel
theorem dX3_momentumThere_46 : decode cX3_momentumThere 46 = .ok (.goto (-32), 3) := by decide +kernel
theorem dX3_momentumThere_49 : decode cX3_momentumThere 49 = .ok (.lload_n 1, 1) := by decide +kernel
theorem dX3_momentumThere_50 : decode cX3_momentumThere 50 = .ok (.lreturn, 1) := by decide +kernel
theorem dX3_weighLanes_0 : decode cX3_weighLanes 0 = .ok (.iconst 0, 1) := by decide +kernel
theorem dX3_weighLanes_1 : decode cX3_weighLanes 1 = .ok (.istore_n 2, 1) := by decide +kernel
theorem dX3_weighLanes_2 : decode cX3_weighLanes 2 = .ok (.iload_n 2, 1) := by decide +kernel
theorem dX3_weighLanes_3 : decode cX3_weighLanes 3 = .ok (.aload_n 1, 1) := by decide +kernel
theorem dX3_weighLanes_4 : decode cX3_weighLanes 4 = .ok (.arraylength, 1) := by decide +kernel
theorem dX3_weighLanes_5 : decode cX3_weighLanes 5 = .ok (.if_icmp .ge 13, 3) := by decide +kernel
theorem dX3_weighLanes_8 : decode cX3_weighLanes 8 = .ok (.aload_n 1, 1) := by decide +kernel
theorem dX3_weighLanes_9 : decode cX3_weighLanes 9 = .ok (.iload_n 2, 1) := by decide +kernel
theorem dX3_weighLanes_10 : decode cX3_weighLanes 10 = .ok (.iconst 0, 1) := by decide +kernel
theorem dX3_weighLanes_11 : decode cX3_weighLanes 11 = .ok (.iastore, 1) := by decide +kernel
theorem dX3_weighLanes_12 : decode cX3_weighLanes 12 = .ok (.iinc 2 1, 3) := by decide +kernel
theorem dX3_weighLanes_15 : decode cX3_weighLanes 15 = .ok (.goto (-13), 3) := by decide +kernel
theorem dX3_weighLanes_18 : decode cX3_weighLanes 18 = .ok (.aload_n 0, 1) := by decide +kernel
theorem dX3_weighLanes_19 : decode cX3_weighLanes 19 = .ok (.getfield 27, 3) := by decide +kernel
theorem dX3_weighLanes_22 : decode cX3_weighLanes 22 = .ok (.astore_n 2, 1) := by decide +kernel
theorem dX3_weighLanes_23 : decode cX3_weighLanes 23 = .ok (.aload_n 2, 1) := by decide +kernel
theorem dX3_weighLanes_24 : decode cX3_weighLanes 24 = .ok (.arraylength, 1) := by decide +kernel
theorem dX3_weighLanes_25 : decode cX3_weighLanes 25 = .ok (.istore_n 3, 1) := by decide +kernel
theorem dX3_weighLanes_26 : decode cX3_weighLanes 26 = .ok (.iconst 0, 1) := by decide +kernel
theorem dX3_weighLanes_27 : decode cX3_weighLanes 27 = .ok (.istore 4, 2) := by decide +kernel
theorem dX3_weighLanes_29 : decode cX3_weighLanes 29 = .ok (.iload 4, 2) := by decide +kernel
theorem dX3_weighLanes_31 : decode cX3_weighLanes 31 = .ok (.iload_n 3, 1) := by decide +kernel
theorem dX3_weighLanes_32 : decode cX3_weighLanes 32 = .ok (.if_icmp .ge 56, 3) := by decide +kernel
theorem dX3_weighLanes_35 : decode cX3_weighLanes 35 = .ok (.aload_n 2, 1) := by decide +kernel
theorem dX3_weighLanes_36 : decode cX3_weighLanes 36 = .ok (.iload 4, 2) := by decide +kernel
theorem dX3_weighLanes_38 : decode cX3_weighLanes 38 = .ok (.aaload, 1) := by decide +kernel
theorem dX3_weighLanes_39 : decode cX3_weighLanes 39 = .ok (.astore 5, 2) := by decide +kernel
theorem dX3_weighLanes_41 : decode cX3_weighLanes 41 = .ok (.aload 5, 2) := by decide +kernel
theorem dX3_weighLanes_43 : decode cX3_weighLanes 43 = .ok (.getfield 57, 3) := by decide +kernel
theorem dX3_weighLanes_46 : decode cX3_weighLanes 46 = .ok (.ifCond .eq 36, 3) := by decide +kernel
theorem dX3_weighLanes_49 : decode cX3_weighLanes 49 = .ok (.aload 5, 2) := by decide +kernel
theorem dX3_weighLanes_51 : decode cX3_weighLanes 51 = .ok (.getfield 45, 3) := by decide +kernel
theorem dX3_weighLanes_54 : decode cX3_weighLanes 54 = .ok (.ifCond .lt 28, 3) := by decide +kernel
theorem dX3_weighLanes_57 : decode cX3_weighLanes 57 = .ok (.aload 5, 2) := by decide +kernel
theorem dX3_weighLanes_59 : decode cX3_weighLanes 59 = .ok (.getfield 45, 3) := by decide +kernel
theorem dX3_weighLanes_62 : decode cX3_weighLanes 62 = .ok (.aload_n 1, 1) := by decide +kernel
theorem dX3_weighLanes_63 : decode cX3_weighLanes 63 = .ok (.arraylength, 1) := by decide +kernel
theorem dX3_weighLanes_64 : decode cX3_weighLanes 64 = .ok (.if_icmp .ge 18, 3) := by decide +kernel
theorem dX3_weighLanes_67 : decode cX3_weighLanes 67 = .ok (.aload_n 1, 1) := by decide +kernel
theorem dX3_weighLanes_68 : decode cX3_weighLanes 68 = .ok (.aload 5, 2) := by decide +kernel
theorem dX3_weighLanes_70 : decode cX3_weighLanes 70 = .ok (.getfield 45, 3) := by decide +kernel
theorem dX3_weighLanes_73 : decode cX3_weighLanes 73 = .ok (.dup2, 1) := by decide +kernel
theorem dX3_weighLanes_74 : decode cX3_weighLanes 74 = .ok (.iaload, 1) := by decide +kernel
theorem dX3_weighLanes_75 : decode cX3_weighLanes 75 = .ok (.aload 5, 2) := by decide +kernel
theorem dX3_weighLanes_77 : decode cX3_weighLanes 77 = .ok (.getfield 51, 3) := by decide +kernel
theorem dX3_weighLanes_80 : decode cX3_weighLanes 80 = .ok (.iadd, 1) := by decide +kernel
theorem dX3_weighLanes_81 : decode cX3_weighLanes 81 = .ok (.iastore, 1) := by decide +kernel
theorem dX3_weighLanes_82 : decode cX3_weighLanes 82 = .ok (.iinc 4 1, 3) := by decide +kernel
theorem dX3_weighLanes_85 : decode cX3_weighLanes 85 = .ok (.goto (-56), 3) := by decide +kernel
theorem dX3_weighLanes_88 : decode cX3_weighLanes 88 = .ok (.return_, 1) := by decide +kernel
theorem dX3_goRound_0 : decode cX3_goRound 0 = .ok (.aload_n 0, 1) := by decide +kernel
theorem dX3_goRound_1 : decode cX3_goRound 1 = .ok (.getfield 27, 3) := by decide +kernel
theorem dX3_goRound_4 : decode cX3_goRound 4 = .ok (.astore_n 1, 1) := by decide +kernel
theorem dX3_goRound_5 : decode cX3_goRound 5 = .ok (.aload_n 1, 1) := by decide +kernel
theorem dX3_goRound_6 : decode cX3_goRound 6 = .ok (.arraylength, 1) := by decide +kernel
theorem dX3_goRound_7 : decode cX3_goRound 7 = .ok (.istore_n 2, 1) := by decide +kernel
theorem dX3_goRound_8 : decode cX3_goRound 8 = .ok (.iconst 0, 1) := by decide +kernel
theorem dX3_goRound_9 : decode cX3_goRound 9 = .ok (.istore_n 3, 1) := by decide +kernel
theorem dX3_goRound_10 : decode cX3_goRound 10 = .ok (.iload_n 3, 1) := by decide +kernel
theorem dX3_goRound_11 : decode cX3_goRound 11 = .ok (.iload_n 2, 1) := by decide +kernel
theorem dX3_goRound_12 : decode cX3_goRound 12 = .ok (.if_icmp .ge 47, 3) := by decide +kernel
theorem dX3_goRound_15 : decode cX3_goRound 15 = .ok (.aload_n 1, 1) := by decide +kernel
theorem dX3_goRound_16 : decode cX3_goRound 16 = .ok (.iload_n 3, 1) := by decide +kernel
theorem dX3_goRound_17 : decode cX3_goRound 17 = .ok (.aaload, 1) := by decide +kernel
theorem dX3_goRound_18 : decode cX3_goRound 18 = .ok (.astore 4, 2) := by decide +kernel
theorem dX3_goRound_20 : decode cX3_goRound 20 = .ok (.aload 4, 2) := by decide +kernel
theorem dX3_goRound_22 : decode cX3_goRound 22 = .ok (.getfield 57, 3) := by decide +kernel
theorem dX3_goRound_25 : decode cX3_goRound 25 = .ok (.ifCond .eq 28, 3) := by decide +kernel
theorem dX3_goRound_28 : decode cX3_goRound 28 = .ok (.aload 4, 2) := by decide +kernel
theorem dX3_goRound_30 : decode cX3_goRound 30 = .ok (.aload 4, 2) := by decide +kernel
theorem dX3_goRound_32 : decode cX3_goRound 32 = .ok (.getfield 48, 3) := by decide +kernel
theorem dX3_goRound_35 : decode cX3_goRound 35 = .ok (.aload_n 0, 1) := by decide +kernel
theorem dX3_goRound_36 : decode cX3_goRound 36 = .ok (.getfield 12, 3) := by decide +kernel
theorem dX3_goRound_39 : decode cX3_goRound 39 = .ok (.aload 4, 2) := by decide +kernel
theorem dX3_goRound_41 : decode cX3_goRound 41 = .ok (.getfield 45, 3) := by decide +kernel
theorem dX3_goRound_44 : decode cX3_goRound 44 = .ok (.invokevirtual 72, 3) := by decide +kernel
theorem dX3_goRound_47 : decode cX3_goRound 47 = .ok (.invokestatic 76, 3) := by decide +kernel
theorem dX3_goRound_50 : decode cX3_goRound 50 = .ok (.putfield 48, 3) := by decide +kernel
theorem dX3_goRound_53 : decode cX3_goRound 53 = .ok (.iinc 3 1, 3) := by decide +kernel
theorem dX3_goRound_56 : decode cX3_goRound 56 = .ok (.goto (-46), 3) := by decide +kernel
theorem dX3_goRound_59 : decode cX3_goRound 59 = .ok (.return_, 1) := by decide +kernel
theorem dX3_yieldTo_0 : decode cX3_yieldTo 0 = .ok (.aload_n 0, 1) := by decide +kernel
theorem dX3_yieldTo_1 : decode cX3_yieldTo 1 = .ok (.getfield 27, 3) := by decide +kernel
theorem dX3_yieldTo_4 : decode cX3_yieldTo 4 = .ok (.astore_n 2, 1) := by decide +kernel
theorem dX3_yieldTo_5 : decode cX3_yieldTo 5 = .ok (.aload_n 2, 1) := by decide +kernel
theorem dX3_yieldTo_6 : decode cX3_yieldTo 6 = .ok (.arraylength, 1) := by decide +kernel
theorem dX3_yieldTo_7 : decode cX3_yieldTo 7 = .ok (.istore_n 3, 1) := by decide +kernel
theorem dX3_yieldTo_8 : decode cX3_yieldTo 8 = .ok (.iconst 0, 1) := by decide +kernel
theorem dX3_yieldTo_9 : decode cX3_yieldTo 9 = .ok (.istore 4, 2) := by decide +kernel
theorem dX3_yieldTo_11 : decode cX3_yieldTo 11 = .ok (.iload 4, 2) := by decide +kernel
theorem dX3_yieldTo_13 : decode cX3_yieldTo 13 = .ok (.iload_n 3, 1) := by decide +kernel
theorem dX3_yieldTo_14 : decode cX3_yieldTo 14 = .ok (.if_icmp .ge 113, 3) := by decide +kernel
theorem dX3_yieldTo_17 : decode cX3_yieldTo 17 = .ok (.aload_n 2, 1) := by decide +kernel
theorem dX3_yieldTo_18 : decode cX3_yieldTo 18 = .ok (.iload 4, 2) := by decide +kernel
theorem dX3_yieldTo_20 : decode cX3_yieldTo 20 = .ok (.aaload, 1) := by decide +kernel
theorem dX3_yieldTo_21 : decode cX3_yieldTo 21 = .ok (.astore 5, 2) := by decide +kernel
theorem dX3_yieldTo_23 : decode cX3_yieldTo 23 = .ok (.aload 5, 2) := by decide +kernel
theorem dX3_yieldTo_25 : decode cX3_yieldTo 25 = .ok (.getfield 57, 3) := by decide +kernel
theorem dX3_yieldTo_28 : decode cX3_yieldTo 28 = .ok (.ifCond .eq 93, 3) := by decide +kernel
theorem dX3_yieldTo_31 : decode cX3_yieldTo 31 = .ok (.aload 5, 2) := by decide +kernel
theorem dX3_yieldTo_33 : decode cX3_yieldTo 33 = .ok (.aload_n 1, 1) := by decide +kernel
theorem dX3_yieldTo_34 : decode cX3_yieldTo 34 = .ok (.getfield 80, 3) := by decide +kernel
theorem dX3_yieldTo_37 : decode cX3_yieldTo 37 = .ok (.aload_n 1, 1) := by decide +kernel
theorem dX3_yieldTo_38 : decode cX3_yieldTo 38 = .ok (.getfield 83, 3) := by decide +kernel
theorem dX3_yieldTo_41 : decode cX3_yieldTo 41 = .ok (.aload_n 1, 1) := by decide +kernel
theorem dX3_yieldTo_42 : decode cX3_yieldTo 42 = .ok (.getfield 84, 3) := by decide +kernel
theorem dX3_yieldTo_45 : decode cX3_yieldTo 45 = .ok (.sipush 1000, 3) := by decide +kernel
theorem dX3_yieldTo_48 : decode cX3_yieldTo 48 = .ok (.invokevirtual 87, 3) := by decide +kernel
theorem dX3_yieldTo_51 : decode cX3_yieldTo 51 = .ok (.ifCond .eq 70, 3) := by decide +kernel
theorem dX3_yieldTo_54 : decode cX3_yieldTo 54 = .ok (.aload 5, 2) := by decide +kernel
theorem dX3_yieldTo_56 : decode cX3_yieldTo 56 = .ok (.invokevirtual 68, 3) := by decide +kernel
theorem dX3_yieldTo_59 : decode cX3_yieldTo 59 = .ok (.lstore 6, 2) := by decide +kernel
theorem dX3_yieldTo_61 : decode cX3_yieldTo 61 = .ok (.aload_n 0, 1) := by decide +kernel
theorem dX3_yieldTo_62 : decode cX3_yieldTo 62 = .ok (.aload 5, 2) := by decide +kernel
theorem dX3_yieldTo_64 : decode cX3_yieldTo 64 = .ok (.aload 5, 2) := by decide +kernel
theorem dX3_yieldTo_66 : decode cX3_yieldTo 66 = .ok (.getfield 45, 3) := by decide +kernel
theorem dX3_yieldTo_69 : decode cX3_yieldTo 69 = .ok (.aload_n 1, 1) := by decide +kernel
theorem dX3_yieldTo_70 : decode cX3_yieldTo 70 = .ok (.getfield 80, 3) := by decide +kernel
theorem dX3_yieldTo_73 : decode cX3_yieldTo 73 = .ok (.if_icmp .ge 7, 3) := by decide +kernel
theorem dX3_yieldTo_76 : decode cX3_yieldTo 76 = .ok (.iconst (-1), 1) := by decide +kernel
theorem dX3_yieldTo_77 : decode cX3_yieldTo 77 = .ok (.goto 4, 3) := by decide +kernel
theorem dX3_yieldTo_80 : decode cX3_yieldTo 80 = .ok (.iconst 1, 1) := by decide +kernel
theorem dX3_yieldTo_81 : decode cX3_yieldTo 81 = .ok (.invokevirtual 91, 3) := by decide +kernel
theorem dX3_yieldTo_84 : decode cX3_yieldTo 84 = .ok (.aload 5, 2) := by decide +kernel
theorem dX3_yieldTo_86 : decode cX3_yieldTo 86 = .ok (.aload 5, 2) := by decide +kernel
theorem dX3_yieldTo_88 : decode cX3_yieldTo 88 = .ok (.getfield 54, 3) := by decide +kernel
theorem dX3_yieldTo_91 : decode cX3_yieldTo 91 = .ok (.iconst 5, 1) := by decide +kernel
theorem dX3_yieldTo_92 : decode cX3_yieldTo 92 = .ok (.iadd, 1) := by decide +kernel
theorem dX3_yieldTo_93 : decode cX3_yieldTo 93 = .ok (.bipush 99, 2) := by decide +kernel
theorem dX3_yieldTo_95 : decode cX3_yieldTo 95 = .ok (.invokestatic 95, 3) := by decide +kernel
theorem dX3_yieldTo_98 : decode cX3_yieldTo 98 = .ok (.putfield 54, 3) := by decide +kernel
theorem dX3_yieldTo_101 : decode cX3_yieldTo 101 = .ok (.aload_n 0, 1) := by decide +kernel
theorem dX3_yieldTo_102 : decode cX3_yieldTo 102 = .ok (.getfield 21, 3) := by decide +kernel
theorem dX3_yieldTo_105 : decode cX3_yieldTo 105 = .ok (.dup, 1) := by decide +kernel
theorem dX3_yieldTo_106 : decode cX3_yieldTo 106 = .ok (.getfield 100, 3) := by decide +kernel
theorem dX3_yieldTo_109 : decode cX3_yieldTo 109 = .ok (.aload 5, 2) := by decide +kernel
theorem dX3_yieldTo_111 : decode cX3_yieldTo 111 = .ok (.invokevirtual 68, 3) := by decide +kernel
theorem dX3_yieldTo_114 : decode cX3_yieldTo 114 = .ok (.lload 6, 2) := by decide +kernel
theorem dX3_yieldTo_116 : decode cX3_yieldTo 116 = .ok (.lsub, 1) := by decide +kernel
theorem dX3_yieldTo_117 : decode cX3_yieldTo 117 = .ok (.ladd, 1) := by decide +kernel
theorem dX3_yieldTo_118 : decode cX3_yieldTo 118 = .ok (.putfield 100, 3) := by decide +kernel
theorem dX3_yieldTo_121 : decode cX3_yieldTo 121 = .ok (.iinc 4 1, 3) := by decide +kernel
theorem dX3_yieldTo_124 : decode cX3_yieldTo 124 = .ok (.goto (-113), 3) := by decide +kernel
theorem dX3_yieldTo_127 : decode cX3_yieldTo 127 = .ok (.return_, 1) := by decide +kernel
theorem dX3_meetAll_0 : decode cX3_meetAll 0 = .ok (.aload_n 0, 1) := by decide +kernel
theorem dX3_meetAll_1 : decode cX3_meetAll 1 = .ok (.getfield 27, 3) := by decide +kernel
theorem dX3_meetAll_4 : decode cX3_meetAll 4 = .ok (.astore_n 1, 1) := by decide +kernel
theorem dX3_meetAll_5 : decode cX3_meetAll 5 = .ok (.aload_n 1, 1) := by decide +kernel
theorem dX3_meetAll_6 : decode cX3_meetAll 6 = .ok (.arraylength, 1) := by decide +kernel
theorem dX3_meetAll_7 : decode cX3_meetAll 7 = .ok (.istore_n 2, 1) := by decide +kernel
theorem dX3_meetAll_8 : decode cX3_meetAll 8 = .ok (.iconst 0, 1) := by decide +kernel
theorem dX3_meetAll_9 : decode cX3_meetAll 9 = .ok (.istore_n 3, 1) := by decide +kernel
theorem dX3_meetAll_10 : decode cX3_meetAll 10 = .ok (.iload_n 3, 1) := by decide +kernel
theorem dX3_meetAll_11 : decode cX3_meetAll 11 = .ok (.iload_n 2, 1) := by decide +kernel
theorem dX3_meetAll_12 : decode cX3_meetAll 12 = .ok (.if_icmp .ge 20, 3) := by decide +kernel
theorem dX3_meetAll_15 : decode cX3_meetAll 15 = .ok (.aload_n 1, 1) := by decide +kernel
theorem dX3_meetAll_16 : decode cX3_meetAll 16 = .ok (.iload_n 3, 1) := by decide +kernel
theorem dX3_meetAll_17 : decode cX3_meetAll 17 = .ok (.aaload, 1) := by decide +kernel
theorem dX3_meetAll_18 : decode cX3_meetAll 18 = .ok (.astore 4, 2) := by decide +kernel
theorem dX3_meetAll_20 : decode cX3_meetAll 20 = .ok (.aload 4, 2) := by decide +kernel
theorem dX3_meetAll_22 : decode cX3_meetAll 22 = .ok (.iconst 0, 1) := by decide +kernel
theorem dX3_meetAll_23 : decode cX3_meetAll 23 = .ok (.putfield 103, 3) := by decide +kernel
theorem dX3_meetAll_26 : decode cX3_meetAll 26 = .ok (.iinc 3 1, 3) := by decide +kernel
theorem dX3_meetAll_29 : decode cX3_meetAll 29 = .ok (.goto (-19), 3) := by decide +kernel
theorem dX3_meetAll_32 : decode cX3_meetAll 32 = .ok (.aload_n 0, 1) := by decide +kernel
theorem dX3_meetAll_33 : decode cX3_meetAll 33 = .ok (.getfield 42, 3) := by decide +kernel
theorem dX3_meetAll_36 : decode cX3_meetAll 36 = .ok (.istore_n 1, 1) := by decide +kernel
theorem dX3_meetAll_37 : decode cX3_meetAll 37 = .ok (.iconst 0, 1) := by decide +kernel
theorem dX3_meetAll_38 : decode cX3_meetAll 38 = .ok (.istore_n 2, 1) := by decide +kernel
theorem dX3_meetAll_39 : decode cX3_meetAll 39 = .ok (.iload_n 2, 1) := by decide +kernel
theorem dX3_meetAll_40 : decode cX3_meetAll 40 = .ok (.iload_n 1, 1) := by decide +kernel
theorem dX3_meetAll_41 : decode cX3_meetAll 41 = .ok (.if_icmp .ge 49, 3) := by decide +kernel
theorem dX3_meetAll_44 : decode cX3_meetAll 44 = .ok (.aload_n 0, 1) := by decide +kernel
theorem dX3_meetAll_45 : decode cX3_meetAll 45 = .ok (.getfield 27, 3) := by decide +kernel
theorem dX3_meetAll_48 : decode cX3_meetAll 48 = .ok (.iload_n 2, 1) := by decide +kernel
theorem dX3_meetAll_49 : decode cX3_meetAll 49 = .ok (.aaload, 1) := by decide +kernel
theorem dX3_meetAll_50 : decode cX3_meetAll 50 = .ok (.invokevirtual 106, 3) := by decide +kernel
theorem dX3_meetAll_53 : decode cX3_meetAll 53 = .ok (.ifCond .eq 31, 3) := by decide +kernel
theorem dX3_meetAll_56 : decode cX3_meetAll 56 = .ok (.aload_n 0, 1) := by decide +kernel
theorem dX3_meetAll_57 : decode cX3_meetAll 57 = .ok (.iload_n 2, 1) := by decide +kernel
theorem dX3_meetAll_58 : decode cX3_meetAll 58 = .ok (.iload_n 1, 1) := by decide +kernel
theorem dX3_meetAll_59 : decode cX3_meetAll 59 = .ok (.invokevirtual 110, 3) := by decide +kernel
theorem dX3_meetAll_62 : decode cX3_meetAll 62 = .ok (.istore_n 3, 1) := by decide +kernel
theorem dX3_meetAll_63 : decode cX3_meetAll 63 = .ok (.iload_n 3, 1) := by decide +kernel
theorem dX3_meetAll_64 : decode cX3_meetAll 64 = .ok (.iconst (-1), 1) := by decide +kernel
theorem dX3_meetAll_65 : decode cX3_meetAll 65 = .ok (.if_icmp .eq 19, 3) := by decide +kernel
theorem dX3_meetAll_68 : decode cX3_meetAll 68 = .ok (.aload_n 0, 1) := by decide +kernel
theorem dX3_meetAll_69 : decode cX3_meetAll 69 = .ok (.aload_n 0, 1) := by decide +kernel
theorem dX3_meetAll_70 : decode cX3_meetAll 70 = .ok (.getfield 27, 3) := by decide +kernel
theorem dX3_meetAll_73 : decode cX3_meetAll 73 = .ok (.iload_n 2, 1) := by decide +kernel
theorem dX3_meetAll_74 : decode cX3_meetAll 74 = .ok (.aaload, 1) := by decide +kernel
theorem dX3_meetAll_75 : decode cX3_meetAll 75 = .ok (.aload_n 0, 1) := by decide +kernel
theorem dX3_meetAll_76 : decode cX3_meetAll 76 = .ok (.getfield 27, 3) := by decide +kernel
theorem dX3_meetAll_79 : decode cX3_meetAll 79 = .ok (.iload_n 3, 1) := by decide +kernel
theorem dX3_meetAll_80 : decode cX3_meetAll 80 = .ok (.aaload, 1) := by decide +kernel
theorem dX3_meetAll_81 : decode cX3_meetAll 81 = .ok (.invokevirtual 113, 3) := by decide +kernel
theorem dX3_meetAll_84 : decode cX3_meetAll 84 = .ok (.iinc 2 1, 3) := by decide +kernel
theorem dX3_meetAll_87 : decode cX3_meetAll 87 = .ok (.goto (-48), 3) := by decide +kernel
theorem dX3_meetAll_90 : decode cX3_meetAll 90 = .ok (.return_, 1) := by decide +kernel
theorem dX3_darken_0 : decode cX3_darken 0 = .ok (.aload_n 0, 1) := by decide +kernel
theorem dX3_darken_1 : decode cX3_darken 1 = .ok (.getfield 27, 3) := by decide +kernel
theorem dX3_darken_4 : decode cX3_darken 4 = .ok (.astore_n 1, 1) := by decide +kernel
theorem dX3_darken_5 : decode cX3_darken 5 = .ok (.aload_n 1, 1) := by decide +kernel
theorem dX3_darken_6 : decode cX3_darken 6 = .ok (.arraylength, 1) := by decide +kernel
theorem dX3_darken_7 : decode cX3_darken 7 = .ok (.istore_n 2, 1) := by decide +kernel
theorem dX3_darken_8 : decode cX3_darken 8 = .ok (.iconst 0, 1) := by decide +kernel
theorem dX3_darken_9 : decode cX3_darken 9 = .ok (.istore_n 3, 1) := by decide +kernel
theorem dX3_darken_10 : decode cX3_darken 10 = .ok (.iload_n 3, 1) := by decide +kernel
theorem dX3_darken_11 : decode cX3_darken 11 = .ok (.iload_n 2, 1) := by decide +kernel
theorem dX3_darken_12 : decode cX3_darken 12 = .ok (.if_icmp .ge 40, 3) := by decide +kernel
theorem dX3_darken_15 : decode cX3_darken 15 = .ok (.aload_n 1, 1) := by decide +kernel
theorem dX3_darken_16 : decode cX3_darken 16 = .ok (.iload_n 3, 1) := by decide +kernel
theorem dX3_darken_17 : decode cX3_darken 17 = .ok (.aaload, 1) := by decide +kernel
theorem dX3_darken_18 : decode cX3_darken 18 = .ok (.astore 4, 2) := by decide +kernel
theorem dX3_darken_20 : decode cX3_darken 20 = .ok (.aload 4, 2) := by decide +kernel
theorem dX3_darken_22 : decode cX3_darken 22 = .ok (.getfield 57, 3) := by decide +kernel
theorem dX3_darken_25 : decode cX3_darken 25 = .ok (.ifCond .eq 21, 3) := by decide +kernel
theorem dX3_darken_28 : decode cX3_darken 28 = .ok (.aload 4, 2) := by decide +kernel
theorem dX3_darken_30 : decode cX3_darken 30 = .ok (.aload 4, 2) := by decide +kernel
theorem dX3_darken_32 : decode cX3_darken 32 = .ok (.getfield 117, 3) := by decide +kernel
theorem dX3_darken_35 : decode cX3_darken 35 = .ok (.iconst 1, 1) := by decide +kernel
theorem dX3_darken_36 : decode cX3_darken 36 = .ok (.iadd, 1) := by decide +kernel
theorem dX3_darken_37 : decode cX3_darken 37 = .ok (.sipush 1000, 3) := by decide +kernel
theorem dX3_darken_40 : decode cX3_darken 40 = .ok (.invokestatic 95, 3) := by decide +kernel
theorem dX3_darken_43 : decode cX3_darken 43 = .ok (.putfield 117, 3) := by decide +kernel
theorem dX3_darken_46 : decode cX3_darken 46 = .ok (.iinc 3 1, 3) := by decide +kernel
theorem dX3_darken_49 : decode cX3_darken 49 = .ok (.goto (-39), 3) := by decide +kernel
theorem dX3_darken_52 : decode cX3_darken 52 = .ok (.return_, 1) := by decide +kernel
theorem dX3_partnerOf_0 : decode cX3_partnerOf 0 = .ok (.aload_n 0, 1) := by decide +kernel
theorem dX3_partnerOf_1 : decode cX3_partnerOf 1 = .ok (.getfield 27, 3) := by decide +kernel
theorem dX3_partnerOf_4 : decode cX3_partnerOf 4 = .ok (.iload_n 1, 1) := by decide +kernel
theorem dX3_partnerOf_5 : decode cX3_partnerOf 5 = .ok (.aaload, 1) := by decide +kernel
theorem dX3_partnerOf_6 : decode cX3_partnerOf 6 = .ok (.astore_n 3, 1) := by decide +kernel
theorem dX3_partnerOf_7 : decode cX3_partnerOf 7 = .ok (.iload_n 1, 1) := by decide +kernel
theorem dX3_partnerOf_8 : decode cX3_partnerOf 8 = .ok (.iconst 1, 1) := by decide +kernel
theorem dX3_partnerOf_9 : decode cX3_partnerOf 9 = .ok (.iadd, 1) := by decide +kernel
