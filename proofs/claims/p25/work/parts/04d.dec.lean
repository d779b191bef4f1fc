theorem dX7_widthOf_25 : decode cX7_widthOf 25 = .ok (.iload_n 1, 1) := by decide +kernel
theorem dX7_widthOf_26 : decode cX7_widthOf 26 = .ok (.bipush 20, 2) := by decide +kernel
theorem dX7_widthOf_28 : decode cX7_widthOf 28 = .ok (.idiv, 1) := by decide +kernel
theorem dX7_widthOf_29 : decode cX7_widthOf 29 = .ok (.ireturn, 1) := by decide +kernel
theorem dX7_passTick_0 : decode cX7_passTick 0 = .ok (.iconst 0, 1) := by decide +kernel
theorem dX7_passTick_1 : decode cX7_passTick 1 = .ok (.istore_n 1, 1) := by decide +kernel
theorem dX7_passTick_2 : decode cX7_passTick 2 = .ok (.iload_n 1, 1) := by decide +kernel
theorem dX7_passTick_3 : decode cX7_passTick 3 = .ok (.aload_n 0, 1) := by decide +kernel
theorem dX7_passTick_4 : decode cX7_passTick 4 = .ok (.getfield 69, 3) := by decide +kernel
theorem dX7_passTick_7 : decode cX7_passTick 7 = .ok (.if_icmp .ge 49, 3) := by decide +kernel
theorem dX7_passTick_10 : decode cX7_passTick 10 = .ok (.aload_n 0, 1) := by decide +kernel
theorem dX7_passTick_11 : decode cX7_passTick 11 = .ok (.getfield 18, 3) := by decide +kernel
theorem dX7_passTick_14 : decode cX7_passTick 14 = .ok (.iload_n 1, 1) := by decide +kernel
theorem dX7_passTick_15 : decode cX7_passTick 15 = .ok (.aaload, 1) := by decide +kernel
theorem dX7_passTick_16 : decode cX7_passTick 16 = .ok (.aload_n 0, 1) := by decide +kernel
theorem dX7_passTick_17 : decode cX7_passTick 17 = .ok (.getfield 18, 3) := by decide +kernel
theorem dX7_passTick_20 : decode cX7_passTick 20 = .ok (.iload_n 1, 1) := by decide +kernel
theorem dX7_passTick_21 : decode cX7_passTick 21 = .ok (.aaload, 1) := by decide +kernel
theorem dX7_passTick_22 : decode cX7_passTick 22 = .ok (.getfield 77, 3) := by decide +kernel
theorem dX7_passTick_25 : decode cX7_passTick 25 = .ok (.aload_n 0, 1) := by decide +kernel
theorem dX7_passTick_26 : decode cX7_passTick 26 = .ok (.getfield 12, 3) := by decide +kernel
theorem dX7_passTick_29 : decode cX7_passTick 29 = .ok (.getfield 87, 3) := by decide +kernel
theorem dX7_passTick_32 : decode cX7_passTick 32 = .ok (.aload_n 0, 1) := by decide +kernel
theorem dX7_passTick_33 : decode cX7_passTick 33 = .ok (.getfield 18, 3) := by decide +kernel
theorem dX7_passTick_36 : decode cX7_passTick 36 = .ok (.iload_n 1, 1) := by decide +kernel
theorem dX7_passTick_37 : decode cX7_passTick 37 = .ok (.aaload, 1) := by decide +kernel
theorem dX7_passTick_38 : decode cX7_passTick 38 = .ok (.getfield 74, 3) := by decide +kernel
theorem dX7_passTick_41 : decode cX7_passTick 41 = .ok (.invokevirtual 180, 3) := by decide +kernel
theorem dX7_passTick_44 : decode cX7_passTick 44 = .ok (.invokestatic 281, 3) := by decide +kernel
theorem dX7_passTick_47 : decode cX7_passTick 47 = .ok (.putfield 77, 3) := by decide +kernel
theorem dX7_passTick_50 : decode cX7_passTick 50 = .ok (.iinc 1 1, 3) := by decide +kernel
theorem dX7_passTick_53 : decode cX7_passTick 53 = .ok (.goto (-51), 3) := by decide +kernel
theorem dX7_passTick_56 : decode cX7_passTick 56 = .ok (.aload_n 0, 1) := by decide +kernel
theorem dX7_passTick_57 : decode cX7_passTick 57 = .ok (.getfield 12, 3) := by decide +kernel
theorem dX7_passTick_60 : decode cX7_passTick 60 = .ok (.invokevirtual 284, 3) := by decide +kernel
theorem dX7_passTick_63 : decode cX7_passTick 63 = .ok (.iconst 0, 1) := by decide +kernel
theorem dX7_passTick_64 : decode cX7_passTick 64 = .ok (.istore_n 1, 1) := by decide +kernel
theorem dX7_passTick_65 : decode cX7_passTick 65 = .ok (.iload_n 1, 1) := by decide +kernel
theorem dX7_passTick_66 : decode cX7_passTick 66 = .ok (.aload_n 0, 1) := by decide +kernel
theorem dX7_passTick_67 : decode cX7_passTick 67 = .ok (.getfield 69, 3) := by decide +kernel
theorem dX7_passTick_70 : decode cX7_passTick 70 = .ok (.if_icmp .ge 22, 3) := by decide +kernel
theorem dX7_passTick_73 : decode cX7_passTick 73 = .ok (.aload_n 0, 1) := by decide +kernel
theorem dX7_passTick_74 : decode cX7_passTick 74 = .ok (.getfield 12, 3) := by decide +kernel
theorem dX7_passTick_77 : decode cX7_passTick 77 = .ok (.aload_n 0, 1) := by decide +kernel
theorem dX7_passTick_78 : decode cX7_passTick 78 = .ok (.getfield 18, 3) := by decide +kernel
theorem dX7_passTick_81 : decode cX7_passTick 81 = .ok (.iload_n 1, 1) := by decide +kernel
theorem dX7_passTick_82 : decode cX7_passTick 82 = .ok (.aaload, 1) := by decide +kernel
theorem dX7_passTick_83 : decode cX7_passTick 83 = .ok (.invokevirtual 287, 3) := by decide +kernel
theorem dX7_passTick_86 : decode cX7_passTick 86 = .ok (.iinc 1 1, 3) := by decide +kernel
theorem dX7_passTick_89 : decode cX7_passTick 89 = .ok (.goto (-24), 3) := by decide +kernel
theorem dX7_passTick_92 : decode cX7_passTick 92 = .ok (.aload_n 0, 1) := by decide +kernel
theorem dX7_passTick_93 : decode cX7_passTick 93 = .ok (.getfield 12, 3) := by decide +kernel
theorem dX7_passTick_96 : decode cX7_passTick 96 = .ok (.invokevirtual 291, 3) := by decide +kernel
theorem dX7_passTick_99 : decode cX7_passTick 99 = .ok (.aload_n 0, 1) := by decide +kernel
theorem dX7_passTick_100 : decode cX7_passTick 100 = .ok (.getfield 12, 3) := by decide +kernel
theorem dX7_passTick_103 : decode cX7_passTick 103 = .ok (.invokevirtual 294, 3) := by decide +kernel
theorem dX7_passTick_106 : decode cX7_passTick 106 = .ok (.aload_n 0, 1) := by decide +kernel
theorem dX7_passTick_107 : decode cX7_passTick 107 = .ok (.dup, 1) := by decide +kernel
theorem dX7_passTick_108 : decode cX7_passTick 108 = .ok (.getfield 105, 3) := by decide +kernel
theorem dX7_passTick_111 : decode cX7_passTick 111 = .ok (.iconst 1, 1) := by decide +kernel
theorem dX7_passTick_112 : decode cX7_passTick 112 = .ok (.iadd, 1) := by decide +kernel
theorem dX7_passTick_113 : decode cX7_passTick 113 = .ok (.putfield 105, 3) := by decide +kernel
theorem dX7_passTick_116 : decode cX7_passTick 116 = .ok (.return_, 1) := by decide +kernel
theorem dL_cell_0 : decode cL_cell 0 = .ok (.iload_n 1, 1) := by decide +kernel
theorem dL_cell_1 : decode cL_cell 1 = .ok (.aload_n 0, 1) := by decide +kernel
theorem dL_cell_2 : decode cL_cell 2 = .ok (.arraylength, 1) := by decide +kernel
theorem dL_cell_3 : decode cL_cell 3 = .ok (.if_icmp .ge 9, 3) := by decide +kernel
theorem dL_cell_6 : decode cL_cell 6 = .ok (.aload_n 0, 1) := by decide +kernel
theorem dL_cell_7 : decode cL_cell 7 = .ok (.iload_n 1, 1) := by decide +kernel
theorem dL_cell_8 : decode cL_cell 8 = .ok (.iaload, 1) := by decide +kernel
theorem dL_cell_9 : decode cL_cell 9 = .ok (.goto 12, 3) := by decide +kernel
theorem dL_cell_12 : decode cL_cell 12 = .ok (.ldc 7, 2) := by decide +kernel
theorem dL_cell_14 : decode cL_cell 14 = .ok (.iload_n 1, 1) := by decide +kernel
theorem dL_cell_15 : decode cL_cell 15 = .ok (.iconst 1, 1) := by decide +kernel
theorem dL_cell_16 : decode cL_cell 16 = .ok (.iadd, 1) := by decide +kernel
theorem dL_cell_17 : decode cL_cell 17 = .ok (.imul, 1) := by decide +kernel
theorem dL_cell_18 : decode cL_cell 18 = .ok (.ldc 8, 2) := by decide +kernel
theorem dL_cell_20 : decode cL_cell 20 = .ok (.iadd, 1) := by decide +kernel
theorem dL_cell_21 : decode cL_cell 21 = .ok (.ireturn, 1) := by decide +kernel
theorem dL_low_0 : decode cL_low 0 = .ok (.iload_n 0, 1) := by decide +kernel
theorem dL_low_1 : decode cL_low 1 = .ok (.ldc 9, 2) := by decide +kernel
theorem dL_low_3 : decode cL_low 3 = .ok (.iand, 1) := by decide +kernel
theorem dL_low_4 : decode cL_low 4 = .ok (.iload_n 1, 1) := by decide +kernel
theorem dL_low_5 : decode cL_low 5 = .ok (.irem, 1) := by decide +kernel
theorem dL_low_6 : decode cL_low 6 = .ok (.ireturn, 1) := by decide +kernel
theorem dL_speed_0 : decode cL_speed 0 = .ok (.iload_n 1, 1) := by decide +kernel
theorem dL_speed_1 : decode cL_speed 1 = .ok (.bipush 20, 2) := by decide +kernel
theorem dL_speed_3 : decode cL_speed 3 = .ok (.iadd, 1) := by decide +kernel
theorem dL_speed_4 : decode cL_speed 4 = .ok (.istore_n 2, 1) := by decide +kernel
theorem dL_speed_5 : decode cL_speed 5 = .ok (.ldc 10, 2) := by decide +kernel
theorem dL_speed_7 : decode cL_speed 7 = .ok (.iload_n 2, 1) := by decide +kernel
theorem dL_speed_8 : decode cL_speed 8 = .ok (.idiv, 1) := by decide +kernel
theorem dL_speed_9 : decode cL_speed 9 = .ok (.bipush 100, 2) := by decide +kernel
theorem dL_speed_11 : decode cL_speed 11 = .ok (.aload_n 0, 1) := by decide +kernel
theorem dL_speed_12 : decode cL_speed 12 = .ok (.bipush 6, 2) := by decide +kernel
theorem dL_speed_14 : decode cL_speed 14 = .ok (.iaload, 1) := by decide +kernel
theorem dL_speed_15 : decode cL_speed 15 = .ok (.imul, 1) := by decide +kernel
theorem dL_speed_16 : decode cL_speed 16 = .ok (.iload_n 2, 1) := by decide +kernel
theorem dL_speed_17 : decode cL_speed 17 = .ok (.iload_n 2, 1) := by decide +kernel
theorem dL_speed_18 : decode cL_speed 18 = .ok (.imul, 1) := by decide +kernel
theorem dL_speed_19 : decode cL_speed 19 = .ok (.idiv, 1) := by decide +kernel
theorem dL_speed_20 : decode cL_speed 20 = .ok (.iadd, 1) := by decide +kernel
theorem dL_speed_21 : decode cL_speed 21 = .ok (.ireturn, 1) := by decide +kernel
theorem dL_apart_0 : decode cL_apart 0 = .ok (.iload_n 0, 1) := by decide +kernel
theorem dL_apart_1 : decode cL_apart 1 = .ok (.iload_n 1, 1) := by decide +kernel
theorem dL_apart_2 : decode cL_apart 2 = .ok (.if_icmp .ge 9, 3) := by decide +kernel
theorem dL_apart_5 : decode cL_apart 5 = .ok (.iload_n 1, 1) := by decide +kernel
theorem dL_apart_6 : decode cL_apart 6 = .ok (.iload_n 0, 1) := by decide +kernel
theorem dL_apart_7 : decode cL_apart 7 = .ok (.isub, 1) := by decide +kernel
theorem dL_apart_8 : decode cL_apart 8 = .ok (.goto 6, 3) := by decide +kernel
theorem dL_apart_11 : decode cL_apart 11 = .ok (.iload_n 0, 1) := by decide +kernel
theorem dL_apart_12 : decode cL_apart 12 = .ok (.iload_n 1, 1) := by decide +kernel
theorem dL_apart_13 : decode cL_apart 13 = .ok (.isub, 1) := by decide +kernel
theorem dL_apart_14 : decode cL_apart 14 = .ok (.istore_n 2, 1) := by decide +kernel
theorem dL_apart_15 : decode cL_apart 15 = .ok (.iload_n 2, 1) := by decide +kernel
theorem dL_apart_16 : decode cL_apart 16 = .ok (.ldc 10, 2) := by decide +kernel
theorem dL_apart_18 : decode cL_apart 18 = .ok (.iload_n 2, 1) := by decide +kernel
theorem dL_apart_19 : decode cL_apart 19 = .ok (.isub, 1) := by decide +kernel
theorem dL_apart_20 : decode cL_apart 20 = .ok (.if_icmp .ge 7, 3) := by decide +kernel
theorem dL_apart_23 : decode cL_apart 23 = .ok (.iload_n 2, 1) := by decide +kernel
theorem dL_apart_24 : decode cL_apart 24 = .ok (.goto 7, 3) := by decide +kernel
theorem dL_apart_27 : decode cL_apart 27 = .ok (.ldc 10, 2) := by decide +kernel
theorem dL_apart_29 : decode cL_apart 29 = .ok (.iload_n 2, 1) := by decide +kernel
theorem dL_apart_30 : decode cL_apart 30 = .ok (.isub, 1) := by decide +kernel
theorem dL_apart_31 : decode cL_apart 31 = .ok (.ireturn, 1) := by decide +kernel
theorem dL_comes_0 : decode cL_comes 0 = .ok (.aload_n 0, 1) := by decide +kernel
theorem dL_comes_1 : decode cL_comes 1 = .ok (.iload 4, 2) := by decide +kernel
theorem dL_comes_3 : decode cL_comes 3 = .ok (.iload 5, 2) := by decide +kernel
theorem dL_comes_5 : decode cL_comes 5 = .ok (.iastore, 1) := by decide +kernel
theorem dL_comes_6 : decode cL_comes 6 = .ok (.iload 5, 2) := by decide +kernel
theorem dL_comes_8 : decode cL_comes 8 = .ok (.iconst (-1), 1) := by decide +kernel
theorem dL_comes_9 : decode cL_comes 9 = .ok (.if_icmp .ne 10, 3) := by decide +kernel
theorem dL_comes_12 : decode cL_comes 12 = .ok (.aload_n 3, 1) := by decide +kernel
theorem dL_comes_13 : decode cL_comes 13 = .ok (.iconst 4, 1) := by decide +kernel
theorem dL_comes_14 : decode cL_comes 14 = .ok (.dup2, 1) := by decide +kernel
theorem dL_comes_15 : decode cL_comes 15 = .ok (.iaload, 1) := by decide +kernel
theorem dL_comes_16 : decode cL_comes 16 = .ok (.iconst 1, 1) := by decide +kernel
theorem dL_comes_17 : decode cL_comes 17 = .ok (.iadd, 1) := by decide +kernel
theorem dL_comes_18 : decode cL_comes 18 = .ok (.iastore, 1) := by decide +kernel
theorem dL_comes_19 : decode cL_comes 19 = .ok (.iload 5, 2) := by decide +kernel
theorem dL_comes_21 : decode cL_comes 21 = .ok (.bipush 64, 2) := by decide +kernel
theorem dL_comes_23 : decode cL_comes 23 = .ok (.if_icmp .ne 10, 3) := by decide +kernel
theorem dL_comes_26 : decode cL_comes 26 = .ok (.aload_n 3, 1) := by decide +kernel
theorem dL_comes_27 : decode cL_comes 27 = .ok (.iconst 5, 1) := by decide +kernel
theorem dL_comes_28 : decode cL_comes 28 = .ok (.dup2, 1) := by decide +kernel
theorem dL_comes_29 : decode cL_comes 29 = .ok (.iaload, 1) := by decide +kernel
theorem dL_comes_30 : decode cL_comes 30 = .ok (.iconst 1, 1) := by decide +kernel
theorem dL_comes_31 : decode cL_comes 31 = .ok (.iadd, 1) := by decide +kernel
theorem dL_comes_32 : decode cL_comes 32 = .ok (.iastore, 1) := by decide +kernel
theorem dL_comes_33 : decode cL_comes 33 = .ok (.iload 5, 2) := by decide +kernel
theorem dL_comes_35 : decode cL_comes 35 = .ok (.iconst (-1), 1) := by decide +kernel
theorem dL_comes_36 : decode cL_comes 36 = .ok (.if_icmp .eq 10, 3) := by decide +kernel
theorem dL_comes_39 : decode cL_comes 39 = .ok (.iload 5, 2) := by decide +kernel
theorem dL_comes_41 : decode cL_comes 41 = .ok (.bipush 64, 2) := by decide +kernel
theorem dL_comes_43 : decode cL_comes 43 = .ok (.if_icmp .ne 8, 3) := by decide +kernel
theorem dL_comes_46 : decode cL_comes 46 = .ok (.aload_n 2, 1) := by decide +kernel
theorem dL_comes_47 : decode cL_comes 47 = .ok (.iload 4, 2) := by decide +kernel
theorem dL_comes_49 : decode cL_comes 49 = .ok (.iconst 0, 1) := by decide +kernel
theorem dL_comes_50 : decode cL_comes 50 = .ok (.iastore, 1) := by decide +kernel
theorem dL_comes_51 : decode cL_comes 51 = .ok (.aload_n 1, 1) := by decide +kernel
theorem dL_comes_52 : decode cL_comes 52 = .ok (.iload 4, 2) := by decide +kernel
theorem dL_comes_54 : decode cL_comes 54 = .ok (.iaload, 1) := by decide +kernel
theorem dL_comes_55 : decode cL_comes 55 = .ok (.i2l, 1) := by decide +kernel
theorem dL_comes_56 : decode cL_comes 56 = .ok (.iload 5, 2) := by decide +kernel
theorem dL_comes_58 : decode cL_comes 58 = .ok (.bipush 20, 2) := by decide +kernel
theorem dL_comes_60 : decode cL_comes 60 = .ok (.iadd, 1) := by decide +kernel
theorem dL_comes_61 : decode cL_comes 61 = .ok (.i2l, 1) := by decide +kernel
theorem dL_comes_62 : decode cL_comes 62 = .ok (.lmul, 1) := by decide +kernel
theorem dL_comes_63 : decode cL_comes 63 = .ok (.lreturn, 1) := by decide +kernel
theorem dL_moment_0 : decode cL_moment 0 = .ok (.aload_n 1, 1) := by decide +kernel
theorem dL_moment_1 : decode cL_moment 1 = .ok (.iload_n 2, 1) := by decide +kernel
theorem dL_moment_2 : decode cL_moment 2 = .ok (.iaload, 1) := by decide +kernel
theorem dL_moment_3 : decode cL_moment 3 = .ok (.i2l, 1) := by decide +kernel
theorem dL_moment_4 : decode cL_moment 4 = .ok (.aload_n 0, 1) := by decide +kernel
theorem dL_moment_5 : decode cL_moment 5 = .ok (.iload_n 2, 1) := by decide +kernel
theorem dL_moment_6 : decode cL_moment 6 = .ok (.iaload, 1) := by decide +kernel
theorem dL_moment_7 : decode cL_moment 7 = .ok (.bipush 20, 2) := by decide +kernel
theorem dL_moment_9 : decode cL_moment 9 = .ok (.iadd, 1) := by decide +kernel
theorem dL_moment_10 : decode cL_moment 10 = .ok (.i2l, 1) := by decide +kernel
theorem dL_moment_11 : decode cL_moment 11 = .ok (.lmul, 1) := by decide +kernel
theorem dL_moment_12 : decode cL_moment 12 = .ok (.lreturn, 1) := by decide +kernel
theorem dL_law_0 : decode cL_law 0 = .ok (.new 11, 3) := by decide +kernel
theorem dL_law_3 : decode cL_law 3 = .ok (.dup, 1) := by decide +kernel
theorem dL_law_4 : decode cL_law 4 = .ok (.invokespecial 13, 3) := by decide +kernel
theorem dL_law_7 : decode cL_law 7 = .ok (.astore_n 1, 1) := by decide +kernel
theorem dL_law_8 : decode cL_law 8 = .ok (.bipush 64, 2) := by decide +kernel
theorem dL_law_10 : decode cL_law 10 = .ok (.newarray .int, 2) := by decide +kernel
theorem dL_law_12 : decode cL_law 12 = .ok (.astore_n 2, 1) := by decide +kernel
theorem dL_law_13 : decode cL_law 13 = .ok (.bipush 64, 2) := by decide +kernel
theorem dL_law_15 : decode cL_law 15 = .ok (.newarray .int, 2) := by decide +kernel
theorem dL_law_17 : decode cL_law 17 = .ok (.astore_n 3, 1) := by decide +kernel
theorem dL_law_18 : decode cL_law 18 = .ok (.bipush 64, 2) := by decide +kernel
theorem dL_law_20 : decode cL_law 20 = .ok (.newarray .int, 2) := by decide +kernel
theorem dL_law_22 : decode cL_law 22 = .ok (.astore 4, 2) := by decide +kernel
theorem dL_law_24 : decode cL_law 24 = .ok (.bipush 64, 2) := by decide +kernel
theorem dL_law_26 : decode cL_law 26 = .ok (.newarray .int, 2) := by decide +kernel
theorem dL_law_28 : decode cL_law 28 = .ok (.astore 5, 2) := by decide +kernel
theorem dL_law_30 : decode cL_law 30 = .ok (.bipush 64, 2) := by decide +kernel
theorem dL_law_32 : decode cL_law 32 = .ok (.newarray .int, 2) := by decide +kernel
theorem dL_law_34 : decode cL_law 34 = .ok (.astore 6, 2) := by decide +kernel
theorem dL_law_36 : decode cL_law 36 = .ok (.bipush 64, 2) := by decide +kernel
theorem dL_law_38 : decode cL_law 38 = .ok (.newarray .int, 2) := by decide +kernel
theorem dL_law_40 : decode cL_law 40 = .ok (.astore 7, 2) := by decide +kernel
theorem dL_law_42 : decode cL_law 42 = .ok (.bipush 64, 2) := by decide +kernel
theorem dL_law_44 : decode cL_law 44 = .ok (.newarray .int, 2) := by decide +kernel
theorem dL_law_46 : decode cL_law 46 = .ok (.astore 8, 2) := by decide +kernel
theorem dL_law_48 : decode cL_law 48 = .ok (.bipush 16, 2) := by decide +kernel
theorem dL_law_50 : decode cL_law 50 = .ok (.newarray .int, 2) := by decide +kernel
theorem dL_law_52 : decode cL_law 52 = .ok (.astore 9, 2) := by decide +kernel
theorem dL_law_54 : decode cL_law 54 = .ok (.bipush 16, 2) := by decide +kernel
theorem dL_law_56 : decode cL_law 56 = .ok (.newarray .int, 2) := by decide +kernel
theorem dL_law_58 : decode cL_law 58 = .ok (.astore 10, 2) := by decide +kernel
theorem dL_law_60 : decode cL_law 60 = .ok (.lconst 0, 1) := by decide +kernel
theorem dL_law_61 : decode cL_law 61 = .ok (.lstore 11, 2) := by decide +kernel
theorem dL_law_63 : decode cL_law 63 = .ok (.lconst 0, 1) := by decide +kernel
theorem dL_law_64 : decode cL_law 64 = .ok (.lstore 13, 2) := by decide +kernel
theorem dL_law_66 : decode cL_law 66 = .ok (.lconst 0, 1) := by decide +kernel
theorem dL_law_67 : decode cL_law 67 = .ok (.lstore 15, 2) := by decide +kernel
theorem dL_law_69 : decode cL_law 69 = .ok (.aload 9, 2) := by decide +kernel
theorem dL_law_71 : decode cL_law 71 = .ok (.bipush 7, 2) := by decide +kernel
theorem dL_law_73 : decode cL_law 73 = .ok (.bipush 20, 2) := by decide +kernel
theorem dL_law_75 : decode cL_law 75 = .ok (.iastore, 1) := by decide +kernel
theorem dL_law_76 : decode cL_law 76 = .ok (.aload 9, 2) := by decide +kernel
theorem dL_law_78 : decode cL_law 78 = .ok (.bipush 8, 2) := by decide +kernel
theorem dL_law_80 : decode cL_law 80 = .ok (.bipush 80, 2) := by decide +kernel
theorem dL_law_82 : decode cL_law 82 = .ok (.iastore, 1) := by decide +kernel
theorem dL_law_83 : decode cL_law 83 = .ok (.aload 9, 2) := by decide +kernel
theorem dL_law_85 : decode cL_law 85 = .ok (.bipush 9, 2) := by decide +kernel
theorem dL_law_87 : decode cL_law 87 = .ok (.bipush 50, 2) := by decide +kernel
theorem dL_law_89 : decode cL_law 89 = .ok (.iastore, 1) := by decide +kernel
theorem dL_law_90 : decode cL_law 90 = .ok (.iconst 0, 1) := by decide +kernel
theorem dL_law_91 : decode cL_law 91 = .ok (.istore 17, 2) := by decide +kernel
theorem dL_law_93 : decode cL_law 93 = .ok (.iconst 1, 1) := by decide +kernel
theorem dL_law_94 : decode cL_law 94 = .ok (.aload_n 0, 1) := by decide +kernel
theorem dL_law_95 : decode cL_law 95 = .ok (.iconst 0, 1) := by decide +kernel
theorem dL_law_96 : decode cL_law 96 = .ok (.invokestatic 14, 3) := by decide +kernel
theorem dL_law_99 : decode cL_law 99 = .ok (.iconst 3, 1) := by decide +kernel
theorem dL_law_100 : decode cL_law 100 = .ok (.invokestatic 20, 3) := by decide +kernel
theorem dL_law_103 : decode cL_law 103 = .ok (.iadd, 1) := by decide +kernel
theorem dL_law_104 : decode cL_law 104 = .ok (.istore 18, 2) := by decide +kernel
theorem dL_law_106 : decode cL_law 106 = .ok (.iconst 0, 1) := by decide +kernel
theorem dL_law_107 : decode cL_law 107 = .ok (.istore 19, 2) := by decide +kernel
theorem dL_law_109 : decode cL_law 109 = .ok (.iload 19, 2) := by decide +kernel
theorem dL_law_111 : decode cL_law 111 = .ok (.iload 18, 2) := by decide +kernel
theorem dL_law_113 : decode cL_law 113 = .ok (.if_icmp .ge 131, 3) := by decide +kernel
theorem dL_law_116 : decode cL_law 116 = .ok (.aload_n 0, 1) := by decide +kernel
theorem dL_law_117 : decode cL_law 117 = .ok (.iconst 1, 1) := by decide +kernel
theorem dL_law_118 : decode cL_law 118 = .ok (.iload 19, 2) := by decide +kernel
theorem dL_law_120 : decode cL_law 120 = .ok (.iadd, 1) := by decide +kernel
theorem dL_law_121 : decode cL_law 121 = .ok (.invokestatic 14, 3) := by decide +kernel
theorem dL_law_124 : decode cL_law 124 = .ok (.istore 20, 2) := by decide +kernel
theorem dL_law_126 : decode cL_law 126 = .ok (.aload 10, 2) := by decide +kernel
theorem dL_law_128 : decode cL_law 128 = .ok (.iconst 3, 1) := by decide +kernel
theorem dL_law_129 : decode cL_law 129 = .ok (.iload 19, 2) := by decide +kernel
theorem dL_law_131 : decode cL_law 131 = .ok (.imul, 1) := by decide +kernel
theorem dL_law_132 : decode cL_law 132 = .ok (.iload 20, 2) := by decide +kernel
theorem dL_law_134 : decode cL_law 134 = .ok (.bipush 64, 2) := by decide +kernel
theorem dL_law_136 : decode cL_law 136 = .ok (.invokestatic 20, 3) := by decide +kernel
theorem dL_law_139 : decode cL_law 139 = .ok (.iastore, 1) := by decide +kernel
theorem dL_law_140 : decode cL_law 140 = .ok (.aload 10, 2) := by decide +kernel
theorem dL_law_142 : decode cL_law 142 = .ok (.iconst 3, 1) := by decide +kernel
theorem dL_law_143 : decode cL_law 143 = .ok (.iload 19, 2) := by decide +kernel
theorem dL_law_145 : decode cL_law 145 = .ok (.imul, 1) := by decide +kernel
theorem dL_law_146 : decode cL_law 146 = .ok (.iconst 1, 1) := by decide +kernel
theorem dL_law_147 : decode cL_law 147 = .ok (.iadd, 1) := by decide +kernel
theorem dL_law_148 : decode cL_law 148 = .ok (.iload 20, 2) := by decide +kernel
theorem dL_law_150 : decode cL_law 150 = .ok (.bipush 6, 2) := by decide +kernel
theorem dL_law_152 : decode cL_law 152 = .ok (.ishr, 1) := by decide +kernel
theorem dL_law_153 : decode cL_law 153 = .ok (.ldc 10, 2) := by decide +kernel
theorem dL_law_155 : decode cL_law 155 = .ok (.invokestatic 20, 3) := by decide +kernel
theorem dL_law_158 : decode cL_law 158 = .ok (.iastore, 1) := by decide +kernel
theorem dL_law_159 : decode cL_law 159 = .ok (.iconst 1, 1) := by decide +kernel
theorem dL_law_160 : decode cL_law 160 = .ok (.iload 20, 2) := by decide +kernel
theorem dL_law_162 : decode cL_law 162 = .ok (.bipush 9, 2) := by decide +kernel
theorem dL_law_164 : decode cL_law 164 = .ok (.ishr, 1) := by decide +kernel
theorem dL_law_165 : decode cL_law 165 = .ok (.sipush 10000, 3) := by decide +kernel
theorem dL_law_168 : decode cL_law 168 = .ok (.invokestatic 20, 3) := by decide +kernel
theorem dL_law_171 : decode cL_law 171 = .ok (.iadd, 1) := by decide +kernel
theorem dL_law_172 : decode cL_law 172 = .ok (.istore 21, 2) := by decide +kernel
theorem dL_law_174 : decode cL_law 174 = .ok (.iconst 0, 1) := by decide +kernel
theorem dL_law_175 : decode cL_law 175 = .ok (.istore 22, 2) := by decide +kernel
theorem dL_law_177 : decode cL_law 177 = .ok (.iload 22, 2) := by decide +kernel
theorem dL_law_179 : decode cL_law 179 = .ok (.iload 22, 2) := by decide +kernel
theorem dL_law_181 : decode cL_law 181 = .ok (.imul, 1) := by decide +kernel
theorem dL_law_182 : decode cL_law 182 = .ok (.iload 21, 2) := by decide +kernel
theorem dL_law_184 : decode cL_law 184 = .ok (.if_icmp .gt 9, 3) := by decide +kernel
theorem dL_law_187 : decode cL_law 187 = .ok (.iinc 22 1, 3) := by decide +kernel
theorem dL_law_190 : decode cL_law 190 = .ok (.goto (-13), 3) := by decide +kernel
theorem dL_law_193 : decode cL_law 193 = .ok (.aload 10, 2) := by decide +kernel
theorem dL_law_195 : decode cL_law 195 = .ok (.iconst 3, 1) := by decide +kernel
theorem dL_law_196 : decode cL_law 196 = .ok (.iload 19, 2) := by decide +kernel
theorem dL_law_198 : decode cL_law 198 = .ok (.imul, 1) := by decide +kernel
theorem dL_law_199 : decode cL_law 199 = .ok (.iconst 2, 1) := by decide +kernel
theorem dL_law_200 : decode cL_law 200 = .ok (.iadd, 1) := by decide +kernel
theorem dL_law_201 : decode cL_law 201 = .ok (.iload 22, 2) := by decide +kernel
theorem dL_law_203 : decode cL_law 203 = .ok (.iconst 1, 1) := by decide +kernel
theorem dL_law_204 : decode cL_law 204 = .ok (.isub, 1) := by decide +kernel
theorem dL_law_205 : decode cL_law 205 = .ok (.bipush 20, 2) := by decide +kernel
theorem dL_law_207 : decode cL_law 207 = .ok (.idiv, 1) := by decide +kernel
theorem dL_law_208 : decode cL_law 208 = .ok (.iastore, 1) := by decide +kernel
theorem dL_law_209 : decode cL_law 209 = .ok (.aload_n 1, 1) := by decide +kernel
theorem dL_law_210 : decode cL_law 210 = .ok (.aload 10, 2) := by decide +kernel
theorem dL_law_212 : decode cL_law 212 = .ok (.iconst 3, 1) := by decide +kernel
theorem dL_law_213 : decode cL_law 213 = .ok (.iload 19, 2) := by decide +kernel
theorem dL_law_215 : decode cL_law 215 = .ok (.imul, 1) := by decide +kernel
theorem dL_law_216 : decode cL_law 216 = .ok (.iaload, 1) := by decide +kernel
theorem dL_law_217 : decode cL_law 217 = .ok (.aload 10, 2) := by decide +kernel
theorem dL_law_219 : decode cL_law 219 = .ok (.iconst 3, 1) := by decide +kernel
theorem dL_law_220 : decode cL_law 220 = .ok (.iload 19, 2) := by decide +kernel
theorem dL_law_222 : decode cL_law 222 = .ok (.imul, 1) := by decide +kernel
theorem dL_law_223 : decode cL_law 223 = .ok (.iconst 1, 1) := by decide +kernel
theorem dL_law_224 : decode cL_law 224 = .ok (.iadd, 1) := by decide +kernel
theorem dL_law_225 : decode cL_law 225 = .ok (.iaload, 1) := by decide +kernel
theorem dL_law_226 : decode cL_law 226 = .ok (.iload 21, 2) := by decide +kernel
theorem dL_law_228 : decode cL_law 228 = .ok (.invokevirtual 24, 3) := by decide +kernel
theorem dL_law_231 : decode cL_law 231 = .ok (.iload 19, 2) := by decide +kernel
theorem dL_law_233 : decode cL_law 233 = .ok (.if_icmp .eq 5, 3) := by decide +kernel
theorem dL_law_236 : decode cL_law 236 = .ok (.iconst 0, 1) := by decide +kernel
theorem dL_law_237 : decode cL_law 237 = .ok (.ireturn, 1) := by decide +kernel
theorem dL_law_238 : decode cL_law 238 = .ok (.iinc 19 1, 3) := by decide +kernel
theorem dL_law_241 : decode cL_law 241 = .ok (.goto (-132), 3) := by decide +kernel
theorem dL_law_244 : decode cL_law 244 = .ok (.iconst 4, 1) := by decide +kernel
theorem dL_law_245 : decode cL_law 245 = .ok (.istore 19, 2) := by decide +kernel
theorem dL_law_247 : decode cL_law 247 = .ok (.aload_n 0, 1) := by decide +kernel
theorem dL_law_248 : decode cL_law 248 = .ok (.iload 19, 2) := by decide +kernel
theorem dL_law_250 : decode cL_law 250 = .ok (.invokestatic 14, 3) := by decide +kernel
theorem dL_law_253 : decode cL_law 253 = .ok (.ldc 10, 2) := by decide +kernel
theorem dL_law_255 : decode cL_law 255 = .ok (.invokestatic 20, 3) := by decide +kernel
theorem dL_law_258 : decode cL_law 258 = .ok (.istore 20, 2) := by decide +kernel
theorem dL_law_260 : decode cL_law 260 = .ok (.aload_n 0, 1) := by decide +kernel
theorem dL_law_261 : decode cL_law 261 = .ok (.iload 19, 2) := by decide +kernel
theorem dL_law_263 : decode cL_law 263 = .ok (.invokestatic 14, 3) := by decide +kernel
theorem dL_law_266 : decode cL_law 266 = .ok (.iconst 5, 1) := by decide +kernel
theorem dL_law_267 : decode cL_law 267 = .ok (.ishr, 1) := by decide +kernel
theorem dL_law_268 : decode cL_law 268 = .ok (.bipush 64, 2) := by decide +kernel
theorem dL_law_270 : decode cL_law 270 = .ok (.invokestatic 20, 3) := by decide +kernel
theorem dL_law_273 : decode cL_law 273 = .ok (.istore 21, 2) := by decide +kernel
theorem dL_law_275 : decode cL_law 275 = .ok (.iinc 19 1, 3) := by decide +kernel
theorem dL_law_278 : decode cL_law 278 = .ok (.iconst 0, 1) := by decide +kernel
theorem dL_law_279 : decode cL_law 279 = .ok (.istore 22, 2) := by decide +kernel
theorem dL_law_281 : decode cL_law 281 = .ok (.iload 22, 2) := by decide +kernel
theorem dL_law_283 : decode cL_law 283 = .ok (.bipush 36, 2) := by decide +kernel
theorem dL_law_285 : decode cL_law 285 = .ok (.if_icmp .ge 1829, 3) := by decide +kernel
theorem dL_law_288 : decode cL_law 288 = .ok (.iload 17, 2) := by decide +kernel
theorem dL_law_290 : decode cL_law 290 = .ok (.bipush 34, 2) := by decide +kernel
theorem dL_law_292 : decode cL_law 292 = .ok (.if_icmp .ge 1822, 3) := by decide +kernel
theorem dL_law_295 : decode cL_law 295 = .ok (.aload_n 0, 1) := by decide +kernel
theorem dL_law_296 : decode cL_law 296 = .ok (.iload 19, 2) := by decide +kernel
theorem dL_law_298 : decode cL_law 298 = .ok (.invokestatic 14, 3) := by decide +kernel
theorem dL_law_301 : decode cL_law 301 = .ok (.istore 23, 2) := by decide +kernel
theorem dL_law_303 : decode cL_law 303 = .ok (.aload_n 0, 1) := by decide +kernel
theorem dL_law_304 : decode cL_law 304 = .ok (.iload 19, 2) := by decide +kernel
theorem dL_law_306 : decode cL_law 306 = .ok (.iconst 1, 1) := by decide +kernel
theorem dL_law_307 : decode cL_law 307 = .ok (.iadd, 1) := by decide +kernel
theorem dL_law_308 : decode cL_law 308 = .ok (.invokestatic 14, 3) := by decide +kernel
theorem dL_law_311 : decode cL_law 311 = .ok (.istore 24, 2) := by decide +kernel
theorem dL_law_313 : decode cL_law 313 = .ok (.iinc 19 2, 3) := by decide +kernel
theorem dL_law_316 : decode cL_law 316 = .ok (.iload 23, 2) := by decide +kernel
theorem dL_law_318 : decode cL_law 318 = .ok (.bipush 8, 2) := by decide +kernel
theorem dL_law_320 : decode cL_law 320 = .ok (.invokestatic 20, 3) := by decide +kernel
theorem dL_law_323 : decode cL_law 323 = .ok (.istore 25, 2) := by decide +kernel
theorem dL_law_325 : decode cL_law 325 = .ok (.iload 25, 2) := by decide +kernel
theorem dL_law_327 : decode cL_law 327 = .ok (.iconst 3, 1) := by decide +kernel
theorem dL_law_328 : decode cL_law 328 = .ok (.if_icmp .ge 10, 3) := by decide +kernel
theorem dL_law_331 : decode cL_law 331 = .ok (.iload 17, 2) := by decide +kernel
theorem dL_law_333 : decode cL_law 333 = .ok (.bipush 24, 2) := by decide +kernel
theorem dL_law_335 : decode cL_law 335 = .ok (.if_icmp .lt 8, 3) := by decide +kernel
theorem dL_law_338 : decode cL_law 338 = .ok (.iload 17, 2) := by decide +kernel
theorem dL_law_340 : decode cL_law 340 = .ok (.ifCond .ne 191, 3) := by decide +kernel
theorem dL_law_343 : decode cL_law 343 = .ok (.iload 23, 2) := by decide +kernel
theorem dL_law_345 : decode cL_law 345 = .ok (.iconst 3, 1) := by decide +kernel
theorem dL_law_346 : decode cL_law 346 = .ok (.ishr, 1) := by decide +kernel
theorem dL_law_347 : decode cL_law 347 = .ok (.iconst 4, 1) := by decide +kernel
theorem dL_law_348 : decode cL_law 348 = .ok (.invokestatic 20, 3) := by decide +kernel
theorem dL_law_351 : decode cL_law 351 = .ok (.istore 26, 2) := by decide +kernel
theorem dL_law_353 : decode cL_law 353 = .ok (.iload 26, 2) := by decide +kernel
theorem dL_law_355 : decode cL_law 355 = .ok (.ifCond .ne 13, 3) := by decide +kernel
theorem dL_law_358 : decode cL_law 358 = .ok (.iload 24, 2) := by decide +kernel
theorem dL_law_360 : decode cL_law 360 = .ok (.bipush 64, 2) := by decide +kernel
theorem dL_law_362 : decode cL_law 362 = .ok (.invokestatic 20, 3) := by decide +kernel
theorem dL_law_365 : decode cL_law 365 = .ok (.goto 15, 3) := by decide +kernel
theorem dL_law_368 : decode cL_law 368 = .ok (.iload 21, 2) := by decide +kernel
theorem dL_law_370 : decode cL_law 370 = .ok (.iload 24, 2) := by decide +kernel
theorem dL_law_372 : decode cL_law 372 = .ok (.iconst 4, 1) := by decide +kernel
theorem dL_law_373 : decode cL_law 373 = .ok (.invokestatic 20, 3) := by decide +kernel
theorem dL_law_376 : decode cL_law 376 = .ok (.iadd, 1) := by decide +kernel
theorem dL_law_377 : decode cL_law 377 = .ok (.bipush 64, 2) := by decide +kernel
theorem dL_law_379 : decode cL_law 379 = .ok (.irem, 1) := by decide +kernel
theorem dL_law_380 : decode cL_law 380 = .ok (.istore 27, 2) := by decide +kernel
theorem dL_law_382 : decode cL_law 382 = .ok (.iload 26, 2) := by decide +kernel
theorem dL_law_384 : decode cL_law 384 = .ok (.ifCond .ne 16, 3) := by decide +kernel
theorem dL_law_387 : decode cL_law 387 = .ok (.iload 24, 2) := by decide +kernel
theorem dL_law_389 : decode cL_law 389 = .ok (.bipush 6, 2) := by decide +kernel
theorem dL_law_391 : decode cL_law 391 = .ok (.ishr, 1) := by decide +kernel
theorem dL_law_392 : decode cL_law 392 = .ok (.ldc 10, 2) := by decide +kernel
theorem dL_law_394 : decode cL_law 394 = .ok (.invokestatic 20, 3) := by decide +kernel
theorem dL_law_397 : decode cL_law 397 = .ok (.goto 20, 3) := by decide +kernel
theorem dL_law_400 : decode cL_law 400 = .ok (.iload 20, 2) := by decide +kernel
theorem dL_law_402 : decode cL_law 402 = .ok (.iload 24, 2) := by decide +kernel
theorem dL_law_404 : decode cL_law 404 = .ok (.bipush 6, 2) := by decide +kernel
theorem dL_law_406 : decode cL_law 406 = .ok (.ishr, 1) := by decide +kernel
theorem dL_law_407 : decode cL_law 407 = .ok (.sipush 150, 3) := by decide +kernel
theorem dL_law_410 : decode cL_law 410 = .ok (.invokestatic 20, 3) := by decide +kernel
theorem dL_law_413 : decode cL_law 413 = .ok (.iadd, 1) := by decide +kernel
theorem dL_law_414 : decode cL_law 414 = .ok (.ldc 10, 2) := by decide +kernel
theorem dL_law_416 : decode cL_law 416 = .ok (.irem, 1) := by decide +kernel
theorem dL_law_417 : decode cL_law 417 = .ok (.istore 28, 2) := by decide +kernel
theorem dL_law_419 : decode cL_law 419 = .ok (.iconst 1, 1) := by decide +kernel
theorem dL_law_420 : decode cL_law 420 = .ok (.iload 24, 2) := by decide +kernel
theorem dL_law_422 : decode cL_law 422 = .ok (.bipush 13, 2) := by decide +kernel
theorem dL_law_424 : decode cL_law 424 = .ok (.ishr, 1) := by decide +kernel
theorem dL_law_425 : decode cL_law 425 = .ok (.iload 23, 2) := by decide +kernel
theorem dL_law_427 : decode cL_law 427 = .ok (.iconst 5, 1) := by decide +kernel
theorem dL_law_428 : decode cL_law 428 = .ok (.ishr, 1) := by decide +kernel
theorem dL_law_429 : decode cL_law 429 = .ok (.iconst 2, 1) := by decide +kernel
theorem dL_law_430 : decode cL_law 430 = .ok (.invokestatic 20, 3) := by decide +kernel
theorem dL_law_433 : decode cL_law 433 = .ok (.ifCond .ne 7, 3) := by decide +kernel
theorem dL_law_436 : decode cL_law 436 = .ok (.iconst 5, 1) := by decide +kernel
theorem dL_law_437 : decode cL_law 437 = .ok (.goto 6, 3) := by decide +kernel
theorem dL_law_440 : decode cL_law 440 = .ok (.sipush 10000, 3) := by decide +kernel
theorem dL_law_443 : decode cL_law 443 = .ok (.invokestatic 20, 3) := by decide +kernel
theorem dL_law_446 : decode cL_law 446 = .ok (.iadd, 1) := by decide +kernel
theorem dL_law_447 : decode cL_law 447 = .ok (.istore 29, 2) := by decide +kernel
theorem dL_law_449 : decode cL_law 449 = .ok (.iload 23, 2) := by decide +kernel
theorem dL_law_451 : decode cL_law 451 = .ok (.bipush 7, 2) := by decide +kernel
theorem dL_law_453 : decode cL_law 453 = .ok (.ishr, 1) := by decide +kernel
theorem dL_law_454 : decode cL_law 454 = .ok (.bipush 100, 2) := by decide +kernel
theorem dL_law_456 : decode cL_law 456 = .ok (.invokestatic 20, 3) := by decide +kernel
theorem dL_law_459 : decode cL_law 459 = .ok (.istore 30, 2) := by decide +kernel
theorem dL_law_461 : decode cL_law 461 = .ok (.aload_n 1, 1) := by decide +kernel
theorem dL_law_462 : decode cL_law 462 = .ok (.iload 27, 2) := by decide +kernel
theorem dL_law_464 : decode cL_law 464 = .ok (.iload 28, 2) := by decide +kernel
theorem dL_law_466 : decode cL_law 466 = .ok (.iload 29, 2) := by decide +kernel
theorem dL_law_468 : decode cL_law 468 = .ok (.iload 30, 2) := by decide +kernel
theorem dL_law_470 : decode cL_law 470 = .ok (.invokevirtual 28, 3) := by decide +kernel
theorem dL_law_473 : decode cL_law 473 = .ok (.iload 17, 2) := by decide +kernel
theorem dL_law_475 : decode cL_law 475 = .ok (.if_icmp .eq 5, 3) := by decide +kernel
theorem dL_law_478 : decode cL_law 478 = .ok (.iconst 0, 1) := by decide +kernel
theorem dL_law_479 : decode cL_law 479 = .ok (.ireturn, 1) := by decide +kernel
theorem dL_law_480 : decode cL_law 480 = .ok (.aload_n 2, 1) := by decide +kernel
theorem dL_law_481 : decode cL_law 481 = .ok (.iload 17, 2) := by decide +kernel
theorem dL_law_483 : decode cL_law 483 = .ok (.iload 27, 2) := by decide +kernel
theorem dL_law_485 : decode cL_law 485 = .ok (.iastore, 1) := by decide +kernel
theorem dL_law_486 : decode cL_law 486 = .ok (.aload_n 3, 1) := by decide +kernel
theorem dL_law_487 : decode cL_law 487 = .ok (.iload 17, 2) := by decide +kernel
theorem dL_law_489 : decode cL_law 489 = .ok (.iload 28, 2) := by decide +kernel
theorem dL_law_491 : decode cL_law 491 = .ok (.iastore, 1) := by decide +kernel
theorem dL_law_492 : decode cL_law 492 = .ok (.aload 4, 2) := by decide +kernel
theorem dL_law_494 : decode cL_law 494 = .ok (.iload 17, 2) := by decide +kernel
theorem dL_law_496 : decode cL_law 496 = .ok (.iload 29, 2) := by decide +kernel
theorem dL_law_498 : decode cL_law 498 = .ok (.iastore, 1) := by decide +kernel
theorem dL_law_499 : decode cL_law 499 = .ok (.aload 5, 2) := by decide +kernel
theorem dL_law_501 : decode cL_law 501 = .ok (.iload 17, 2) := by decide +kernel
theorem dL_law_503 : decode cL_law 503 = .ok (.iload 30, 2) := by decide +kernel
theorem dL_law_505 : decode cL_law 505 = .ok (.iastore, 1) := by decide +kernel
theorem dL_law_506 : decode cL_law 506 = .ok (.aload 7, 2) := by decide +kernel
