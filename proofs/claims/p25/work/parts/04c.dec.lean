theorem dX7_init_54 : decode cX7_init 54 = .ok (.anewarray 23, 3) := by decide +kernel
theorem dX7_init_57 : decode cX7_init 57 = .ok (.putfield 25, 3) := by decide +kernel
theorem dX7_init_60 : decode cX7_init 60 = .ok (.iconst 0, 1) := by decide +kernel
theorem dX7_init_61 : decode cX7_init 61 = .ok (.istore_n 1, 1) := by decide +kernel
theorem dX7_init_62 : decode cX7_init 62 = .ok (.iload_n 1, 1) := by decide +kernel
theorem dX7_init_63 : decode cX7_init 63 = .ok (.bipush 20, 2) := by decide +kernel
theorem dX7_init_65 : decode cX7_init 65 = .ok (.if_icmp .ge 22, 3) := by decide +kernel
theorem dX7_init_68 : decode cX7_init 68 = .ok (.aload_n 0, 1) := by decide +kernel
theorem dX7_init_69 : decode cX7_init 69 = .ok (.getfield 25, 3) := by decide +kernel
theorem dX7_init_72 : decode cX7_init 72 = .ok (.iload_n 1, 1) := by decide +kernel
theorem dX7_init_73 : decode cX7_init 73 = .ok (.new 23, 3) := by decide +kernel
theorem dX7_init_76 : decode cX7_init 76 = .ok (.dup, 1) := by decide +kernel
theorem dX7_init_77 : decode cX7_init 77 = .ok (.invokespecial 29, 3) := by decide +kernel
theorem dX7_init_80 : decode cX7_init 80 = .ok (.aastore, 1) := by decide +kernel
theorem dX7_init_81 : decode cX7_init 81 = .ok (.iinc 1 1, 3) := by decide +kernel
theorem dX7_init_84 : decode cX7_init 84 = .ok (.goto (-22), 3) := by decide +kernel
theorem dX7_init_87 : decode cX7_init 87 = .ok (.aload_n 0, 1) := by decide +kernel
theorem dX7_init_88 : decode cX7_init 88 = .ok (.bipush 40, 2) := by decide +kernel
theorem dX7_init_90 : decode cX7_init 90 = .ok (.anewarray 30, 3) := by decide +kernel
theorem dX7_init_93 : decode cX7_init 93 = .ok (.putfield 32, 3) := by decide +kernel
theorem dX7_init_96 : decode cX7_init 96 = .ok (.iconst 0, 1) := by decide +kernel
theorem dX7_init_97 : decode cX7_init 97 = .ok (.istore_n 1, 1) := by decide +kernel
theorem dX7_init_98 : decode cX7_init 98 = .ok (.iload_n 1, 1) := by decide +kernel
theorem dX7_init_99 : decode cX7_init 99 = .ok (.bipush 40, 2) := by decide +kernel
theorem dX7_init_101 : decode cX7_init 101 = .ok (.if_icmp .ge 22, 3) := by decide +kernel
theorem dX7_init_104 : decode cX7_init 104 = .ok (.aload_n 0, 1) := by decide +kernel
theorem dX7_init_105 : decode cX7_init 105 = .ok (.getfield 32, 3) := by decide +kernel
theorem dX7_init_108 : decode cX7_init 108 = .ok (.iload_n 1, 1) := by decide +kernel
theorem dX7_init_109 : decode cX7_init 109 = .ok (.new 30, 3) := by decide +kernel
theorem dX7_init_112 : decode cX7_init 112 = .ok (.dup, 1) := by decide +kernel
theorem dX7_init_113 : decode cX7_init 113 = .ok (.invokespecial 36, 3) := by decide +kernel
theorem dX7_init_116 : decode cX7_init 116 = .ok (.aastore, 1) := by decide +kernel
theorem dX7_init_117 : decode cX7_init 117 = .ok (.iinc 1 1, 3) := by decide +kernel
theorem dX7_init_120 : decode cX7_init 120 = .ok (.goto (-22), 3) := by decide +kernel
theorem dX7_init_123 : decode cX7_init 123 = .ok (.aload_n 0, 1) := by decide +kernel
theorem dX7_init_124 : decode cX7_init 124 = .ok (.bipush 64, 2) := by decide +kernel
theorem dX7_init_126 : decode cX7_init 126 = .ok (.newarray .int, 2) := by decide +kernel
theorem dX7_init_128 : decode cX7_init 128 = .ok (.putfield 37, 3) := by decide +kernel
theorem dX7_init_131 : decode cX7_init 131 = .ok (.aload_n 0, 1) := by decide +kernel
theorem dX7_init_132 : decode cX7_init 132 = .ok (.bipush 21, 2) := by decide +kernel
theorem dX7_init_134 : decode cX7_init 134 = .ok (.newarray .int, 2) := by decide +kernel
theorem dX7_init_136 : decode cX7_init 136 = .ok (.putfield 41, 3) := by decide +kernel
theorem dX7_init_139 : decode cX7_init 139 = .ok (.aload_n 0, 1) := by decide +kernel
theorem dX7_init_140 : decode cX7_init 140 = .ok (.bipush 21, 2) := by decide +kernel
theorem dX7_init_142 : decode cX7_init 142 = .ok (.newarray .int, 2) := by decide +kernel
theorem dX7_init_144 : decode cX7_init 144 = .ok (.putfield 44, 3) := by decide +kernel
theorem dX7_init_147 : decode cX7_init 147 = .ok (.return_, 1) := by decide +kernel
theorem dX7_grain_0 : decode cX7_grain 0 = .ok (.iload_n 1, 1) := by decide +kernel
theorem dX7_grain_1 : decode cX7_grain 1 = .ok (.iload_n 2, 1) := by decide +kernel
theorem dX7_grain_2 : decode cX7_grain 2 = .ok (.iload_n 3, 1) := by decide +kernel
theorem dX7_grain_3 : decode cX7_grain 3 = .ok (.invokestatic 47, 3) := by decide +kernel
theorem dX7_grain_6 : decode cX7_grain 6 = .ok (.iload 4, 2) := by decide +kernel
theorem dX7_grain_8 : decode cX7_grain 8 = .ok (.iconst 0, 1) := by decide +kernel
theorem dX7_grain_9 : decode cX7_grain 9 = .ok (.bipush 99, 2) := by decide +kernel
theorem dX7_grain_11 : decode cX7_grain 11 = .ok (.invokestatic 51, 3) := by decide +kernel
theorem dX7_grain_14 : decode cX7_grain 14 = .ok (.aload_n 0, 1) := by decide +kernel
theorem dX7_grain_15 : decode cX7_grain 15 = .ok (.getfield 12, 3) := by decide +kernel
theorem dX7_grain_18 : decode cX7_grain 18 = .ok (.getfield 54, 3) := by decide +kernel
theorem dX7_grain_21 : decode cX7_grain 21 = .ok (.bipush 80, 2) := by decide +kernel
theorem dX7_grain_23 : decode cX7_grain 23 = .ok (.if_icmp .lt 13, 3) := by decide +kernel
theorem dX7_grain_26 : decode cX7_grain 26 = .ok (.new 58, 3) := by decide +kernel
theorem dX7_grain_29 : decode cX7_grain 29 = .ok (.dup, 1) := by decide +kernel
theorem dX7_grain_30 : decode cX7_grain 30 = .ok (.ldc 60, 2) := by decide +kernel
theorem dX7_grain_32 : decode cX7_grain 32 = .ok (.invokespecial 62, 3) := by decide +kernel
theorem dX7_grain_35 : decode cX7_grain 35 = .ok (.athrow, 1) := by decide +kernel
theorem dX7_grain_36 : decode cX7_grain 36 = .ok (.aload_n 0, 1) := by decide +kernel
theorem dX7_grain_37 : decode cX7_grain 37 = .ok (.getfield 12, 3) := by decide +kernel
theorem dX7_grain_40 : decode cX7_grain 40 = .ok (.iload_n 1, 1) := by decide +kernel
theorem dX7_grain_41 : decode cX7_grain 41 = .ok (.iload_n 2, 1) := by decide +kernel
theorem dX7_grain_42 : decode cX7_grain 42 = .ok (.iload_n 3, 1) := by decide +kernel
theorem dX7_grain_43 : decode cX7_grain 43 = .ok (.iload 4, 2) := by decide +kernel
theorem dX7_grain_45 : decode cX7_grain 45 = .ok (.invokevirtual 65, 3) := by decide +kernel
theorem dX7_grain_48 : decode cX7_grain 48 = .ok (.ireturn, 1) := by decide +kernel
theorem dX7_moon_0 : decode cX7_moon 0 = .ok (.iload_n 1, 1) := by decide +kernel
theorem dX7_moon_1 : decode cX7_moon 1 = .ok (.iload_n 2, 1) := by decide +kernel
theorem dX7_moon_2 : decode cX7_moon 2 = .ok (.iload_n 3, 1) := by decide +kernel
theorem dX7_moon_3 : decode cX7_moon 3 = .ok (.invokestatic 47, 3) := by decide +kernel
theorem dX7_moon_6 : decode cX7_moon 6 = .ok (.aload_n 0, 1) := by decide +kernel
theorem dX7_moon_7 : decode cX7_moon 7 = .ok (.getfield 69, 3) := by decide +kernel
theorem dX7_moon_10 : decode cX7_moon 10 = .ok (.bipush 6, 2) := by decide +kernel
theorem dX7_moon_12 : decode cX7_moon 12 = .ok (.if_icmp .lt 13, 3) := by decide +kernel
theorem dX7_moon_15 : decode cX7_moon 15 = .ok (.new 58, 3) := by decide +kernel
theorem dX7_moon_18 : decode cX7_moon 18 = .ok (.dup, 1) := by decide +kernel
theorem dX7_moon_19 : decode cX7_moon 19 = .ok (.ldc 72, 2) := by decide +kernel
theorem dX7_moon_21 : decode cX7_moon 21 = .ok (.invokespecial 62, 3) := by decide +kernel
theorem dX7_moon_24 : decode cX7_moon 24 = .ok (.athrow, 1) := by decide +kernel
theorem dX7_moon_25 : decode cX7_moon 25 = .ok (.aload_n 0, 1) := by decide +kernel
theorem dX7_moon_26 : decode cX7_moon 26 = .ok (.getfield 18, 3) := by decide +kernel
theorem dX7_moon_29 : decode cX7_moon 29 = .ok (.aload_n 0, 1) := by decide +kernel
theorem dX7_moon_30 : decode cX7_moon 30 = .ok (.getfield 69, 3) := by decide +kernel
theorem dX7_moon_33 : decode cX7_moon 33 = .ok (.aaload, 1) := by decide +kernel
theorem dX7_moon_34 : decode cX7_moon 34 = .ok (.astore 4, 2) := by decide +kernel
theorem dX7_moon_36 : decode cX7_moon 36 = .ok (.aload 4, 2) := by decide +kernel
theorem dX7_moon_38 : decode cX7_moon 38 = .ok (.iload_n 1, 1) := by decide +kernel
theorem dX7_moon_39 : decode cX7_moon 39 = .ok (.putfield 74, 3) := by decide +kernel
theorem dX7_moon_42 : decode cX7_moon 42 = .ok (.aload 4, 2) := by decide +kernel
theorem dX7_moon_44 : decode cX7_moon 44 = .ok (.iload_n 2, 1) := by decide +kernel
theorem dX7_moon_45 : decode cX7_moon 45 = .ok (.putfield 77, 3) := by decide +kernel
theorem dX7_moon_48 : decode cX7_moon 48 = .ok (.aload 4, 2) := by decide +kernel
theorem dX7_moon_50 : decode cX7_moon 50 = .ok (.iload_n 3, 1) := by decide +kernel
theorem dX7_moon_51 : decode cX7_moon 51 = .ok (.invokestatic 80, 3) := by decide +kernel
theorem dX7_moon_54 : decode cX7_moon 54 = .ok (.putfield 84, 3) := by decide +kernel
theorem dX7_moon_57 : decode cX7_moon 57 = .ok (.aload_n 0, 1) := by decide +kernel
theorem dX7_moon_58 : decode cX7_moon 58 = .ok (.dup, 1) := by decide +kernel
theorem dX7_moon_59 : decode cX7_moon 59 = .ok (.getfield 69, 3) := by decide +kernel
theorem dX7_moon_62 : decode cX7_moon 62 = .ok (.iconst 1, 1) := by decide +kernel
theorem dX7_moon_63 : decode cX7_moon 63 = .ok (.iadd, 1) := by decide +kernel
theorem dX7_moon_64 : decode cX7_moon 64 = .ok (.putfield 69, 3) := by decide +kernel
theorem dX7_moon_67 : decode cX7_moon 67 = .ok (.aload_n 0, 1) := by decide +kernel
theorem dX7_moon_68 : decode cX7_moon 68 = .ok (.getfield 69, 3) := by decide +kernel
theorem dX7_moon_71 : decode cX7_moon 71 = .ok (.iconst 1, 1) := by decide +kernel
theorem dX7_moon_72 : decode cX7_moon 72 = .ok (.isub, 1) := by decide +kernel
theorem dX7_moon_73 : decode cX7_moon 73 = .ok (.ireturn, 1) := by decide +kernel
theorem dX7_flatness_0 : decode cX7_flatness 0 = .ok (.iload_n 1, 1) := by decide +kernel
theorem dX7_flatness_1 : decode cX7_flatness 1 = .ok (.iconst 0, 1) := by decide +kernel
theorem dX7_flatness_2 : decode cX7_flatness 2 = .ok (.sipush 1000, 3) := by decide +kernel
theorem dX7_flatness_5 : decode cX7_flatness 5 = .ok (.invokestatic 51, 3) := by decide +kernel
theorem dX7_flatness_8 : decode cX7_flatness 8 = .ok (.aload_n 0, 1) := by decide +kernel
theorem dX7_flatness_9 : decode cX7_flatness 9 = .ok (.getfield 12, 3) := by decide +kernel
theorem dX7_flatness_12 : decode cX7_flatness 12 = .ok (.getfield 87, 3) := by decide +kernel
theorem dX7_flatness_15 : decode cX7_flatness 15 = .ok (.getfield 91, 3) := by decide +kernel
theorem dX7_flatness_18 : decode cX7_flatness 18 = .ok (.istore_n 2, 1) := by decide +kernel
theorem dX7_flatness_19 : decode cX7_flatness 19 = .ok (.aload_n 0, 1) := by decide +kernel
theorem dX7_flatness_20 : decode cX7_flatness 20 = .ok (.getfield 12, 3) := by decide +kernel
theorem dX7_flatness_23 : decode cX7_flatness 23 = .ok (.getfield 87, 3) := by decide +kernel
theorem dX7_flatness_26 : decode cX7_flatness 26 = .ok (.iload_n 1, 1) := by decide +kernel
theorem dX7_flatness_27 : decode cX7_flatness 27 = .ok (.putfield 91, 3) := by decide +kernel
theorem dX7_flatness_30 : decode cX7_flatness 30 = .ok (.iload_n 2, 1) := by decide +kernel
theorem dX7_flatness_31 : decode cX7_flatness 31 = .ok (.ireturn, 1) := by decide +kernel
theorem dX7_bounds_0 : decode cX7_bounds 0 = .ok (.iload_n 1, 1) := by decide +kernel
theorem dX7_bounds_1 : decode cX7_bounds 1 = .ok (.iconst 0, 1) := by decide +kernel
theorem dX7_bounds_2 : decode cX7_bounds 2 = .ok (.sipush 1000, 3) := by decide +kernel
theorem dX7_bounds_5 : decode cX7_bounds 5 = .ok (.invokestatic 51, 3) := by decide +kernel
theorem dX7_bounds_8 : decode cX7_bounds 8 = .ok (.iload_n 2, 1) := by decide +kernel
theorem dX7_bounds_9 : decode cX7_bounds 9 = .ok (.iload_n 1, 1) := by decide +kernel
theorem dX7_bounds_10 : decode cX7_bounds 10 = .ok (.sipush 5000, 3) := by decide +kernel
theorem dX7_bounds_13 : decode cX7_bounds 13 = .ok (.invokestatic 51, 3) := by decide +kernel
theorem dX7_bounds_16 : decode cX7_bounds 16 = .ok (.iload_n 3, 1) := by decide +kernel
theorem dX7_bounds_17 : decode cX7_bounds 17 = .ok (.iconst 0, 1) := by decide +kernel
theorem dX7_bounds_18 : decode cX7_bounds 18 = .ok (.bipush 100, 2) := by decide +kernel
theorem dX7_bounds_20 : decode cX7_bounds 20 = .ok (.invokestatic 51, 3) := by decide +kernel
theorem dX7_bounds_23 : decode cX7_bounds 23 = .ok (.aload_n 0, 1) := by decide +kernel
theorem dX7_bounds_24 : decode cX7_bounds 24 = .ok (.getfield 12, 3) := by decide +kernel
theorem dX7_bounds_27 : decode cX7_bounds 27 = .ok (.iload_n 1, 1) := by decide +kernel
theorem dX7_bounds_28 : decode cX7_bounds 28 = .ok (.putfield 96, 3) := by decide +kernel
theorem dX7_bounds_31 : decode cX7_bounds 31 = .ok (.aload_n 0, 1) := by decide +kernel
theorem dX7_bounds_32 : decode cX7_bounds 32 = .ok (.getfield 12, 3) := by decide +kernel
theorem dX7_bounds_35 : decode cX7_bounds 35 = .ok (.iload_n 2, 1) := by decide +kernel
theorem dX7_bounds_36 : decode cX7_bounds 36 = .ok (.putfield 99, 3) := by decide +kernel
theorem dX7_bounds_39 : decode cX7_bounds 39 = .ok (.aload_n 0, 1) := by decide +kernel
theorem dX7_bounds_40 : decode cX7_bounds 40 = .ok (.getfield 12, 3) := by decide +kernel
theorem dX7_bounds_43 : decode cX7_bounds 43 = .ok (.iload_n 3, 1) := by decide +kernel
theorem dX7_bounds_44 : decode cX7_bounds 44 = .ok (.putfield 102, 3) := by decide +kernel
theorem dX7_bounds_47 : decode cX7_bounds 47 = .ok (.return_, 1) := by decide +kernel
theorem dX7_tick_0 : decode cX7_tick 0 = .ok (.iload_n 1, 1) := by decide +kernel
theorem dX7_tick_1 : decode cX7_tick 1 = .ok (.iconst 1, 1) := by decide +kernel
theorem dX7_tick_2 : decode cX7_tick 2 = .ok (.bipush 50, 2) := by decide +kernel
theorem dX7_tick_4 : decode cX7_tick 4 = .ok (.invokestatic 51, 3) := by decide +kernel
theorem dX7_tick_7 : decode cX7_tick 7 = .ok (.aload_n 0, 1) := by decide +kernel
theorem dX7_tick_8 : decode cX7_tick 8 = .ok (.getfield 105, 3) := by decide +kernel
theorem dX7_tick_11 : decode cX7_tick 11 = .ok (.iload_n 1, 1) := by decide +kernel
theorem dX7_tick_12 : decode cX7_tick 12 = .ok (.iadd, 1) := by decide +kernel
theorem dX7_tick_13 : decode cX7_tick 13 = .ok (.sipush 2000, 3) := by decide +kernel
theorem dX7_tick_16 : decode cX7_tick 16 = .ok (.if_icmp .le 13, 3) := by decide +kernel
theorem dX7_tick_19 : decode cX7_tick 19 = .ok (.new 58, 3) := by decide +kernel
theorem dX7_tick_22 : decode cX7_tick 22 = .ok (.dup, 1) := by decide +kernel
theorem dX7_tick_23 : decode cX7_tick 23 = .ok (.ldc 108, 2) := by decide +kernel
theorem dX7_tick_25 : decode cX7_tick 25 = .ok (.invokespecial 62, 3) := by decide +kernel
theorem dX7_tick_28 : decode cX7_tick 28 = .ok (.athrow, 1) := by decide +kernel
theorem dX7_tick_29 : decode cX7_tick 29 = .ok (.iconst 0, 1) := by decide +kernel
theorem dX7_tick_30 : decode cX7_tick 30 = .ok (.istore_n 2, 1) := by decide +kernel
theorem dX7_tick_31 : decode cX7_tick 31 = .ok (.iload_n 2, 1) := by decide +kernel
theorem dX7_tick_32 : decode cX7_tick 32 = .ok (.iload_n 1, 1) := by decide +kernel
theorem dX7_tick_33 : decode cX7_tick 33 = .ok (.if_icmp .ge 13, 3) := by decide +kernel
theorem dX7_tick_36 : decode cX7_tick 36 = .ok (.aload_n 0, 1) := by decide +kernel
theorem dX7_tick_37 : decode cX7_tick 37 = .ok (.invokevirtual 110, 3) := by decide +kernel
theorem dX7_tick_40 : decode cX7_tick 40 = .ok (.iinc 2 1, 3) := by decide +kernel
theorem dX7_tick_43 : decode cX7_tick 43 = .ok (.goto (-12), 3) := by decide +kernel
theorem dX7_tick_46 : decode cX7_tick 46 = .ok (.aload_n 0, 1) := by decide +kernel
theorem dX7_tick_47 : decode cX7_tick 47 = .ok (.getfield 105, 3) := by decide +kernel
theorem dX7_tick_50 : decode cX7_tick 50 = .ok (.ireturn, 1) := by decide +kernel
theorem dX7_told_0 : decode cX7_told 0 = .ok (.iload_n 1, 1) := by decide +kernel
theorem dX7_told_1 : decode cX7_told 1 = .ok (.aload_n 0, 1) := by decide +kernel
theorem dX7_told_2 : decode cX7_told 2 = .ok (.getfield 12, 3) := by decide +kernel
theorem dX7_told_5 : decode cX7_told 5 = .ok (.getfield 54, 3) := by decide +kernel
theorem dX7_told_8 : decode cX7_told 8 = .ok (.invokestatic 128, 3) := by decide +kernel
theorem dX7_told_11 : decode cX7_told 11 = .ok (.aload_n 0, 1) := by decide +kernel
theorem dX7_told_12 : decode cX7_told 12 = .ok (.getfield 12, 3) := by decide +kernel
theorem dX7_told_15 : decode cX7_told 15 = .ok (.getfield 154, 3) := by decide +kernel
theorem dX7_told_18 : decode cX7_told 18 = .ok (.iload_n 1, 1) := by decide +kernel
theorem dX7_told_19 : decode cX7_told 19 = .ok (.aaload, 1) := by decide +kernel
theorem dX7_told_20 : decode cX7_told 20 = .ok (.astore_n 3, 1) := by decide +kernel
theorem dX7_told_21 : decode cX7_told 21 = .ok (.iload_n 2, 1) := by decide +kernel
theorem dX7_told_22 : decode cX7_told 22 = .ok (.tableswitch 76 0 5 #[38, 43, 48, 53, 58, 63], 38) := by decide +kernel
theorem dX7_told_60 : decode cX7_told 60 = .ok (.aload_n 3, 1) := by decide +kernel
theorem dX7_told_61 : decode cX7_told 61 = .ok (.getfield 158, 3) := by decide +kernel
theorem dX7_told_64 : decode cX7_told 64 = .ok (.ireturn, 1) := by decide +kernel
theorem dX7_told_65 : decode cX7_told 65 = .ok (.aload_n 3, 1) := by decide +kernel
theorem dX7_told_66 : decode cX7_told 66 = .ok (.getfield 161, 3) := by decide +kernel
theorem dX7_told_69 : decode cX7_told 69 = .ok (.ireturn, 1) := by decide +kernel
theorem dX7_told_70 : decode cX7_told 70 = .ok (.aload_n 3, 1) := by decide +kernel
theorem dX7_told_71 : decode cX7_told 71 = .ok (.getfield 162, 3) := by decide +kernel
theorem dX7_told_74 : decode cX7_told 74 = .ok (.ireturn, 1) := by decide +kernel
theorem dX7_told_75 : decode cX7_told 75 = .ok (.aload_n 3, 1) := by decide +kernel
theorem dX7_told_76 : decode cX7_told 76 = .ok (.getfield 165, 3) := by decide +kernel
theorem dX7_told_79 : decode cX7_told 79 = .ok (.ireturn, 1) := by decide +kernel
theorem dX7_told_80 : decode cX7_told 80 = .ok (.aload_n 3, 1) := by decide +kernel
theorem dX7_told_81 : decode cX7_told 81 = .ok (.getfield 168, 3) := by decide +kernel
theorem dX7_told_84 : decode cX7_told 84 = .ok (.ireturn, 1) := by decide +kernel
theorem dX7_told_85 : decode cX7_told 85 = .ok (.aload_n 3, 1) := by decide +kernel
theorem dX7_told_86 : decode cX7_told 86 = .ok (.getfield 171, 3) := by decide +kernel
theorem dX7_told_89 : decode cX7_told 89 = .ok (.ifCond .eq 7, 3) := by decide +kernel
theorem dX7_told_92 : decode cX7_told 92 = .ok (.iconst 1, 1) := by decide +kernel
theorem dX7_told_93 : decode cX7_told 93 = .ok (.goto 4, 3) := by decide +kernel
theorem dX7_told_96 : decode cX7_told 96 = .ok (.iconst 0, 1) := by decide +kernel
theorem dX7_told_97 : decode cX7_told 97 = .ok (.ireturn, 1) := by decide +kernel
theorem dX7_told_98 : decode cX7_told 98 = .ok (.new 175, 3) := by decide +kernel
theorem dX7_told_101 : decode cX7_told 101 = .ok (.dup, 1) := by decide +kernel
theorem dX7_told_102 : decode cX7_told 102 = .ok (.ldc 177, 2) := by decide +kernel
theorem dX7_told_104 : decode cX7_told 104 = .ok (.invokespecial 179, 3) := by decide +kernel
theorem dX7_told_107 : decode cX7_told 107 = .ok (.athrow, 1) := by decide +kernel
theorem dX7_angle_0 : decode cX7_angle 0 = .ok (.iload_n 1, 1) := by decide +kernel
theorem dX7_angle_1 : decode cX7_angle 1 = .ok (.aload_n 0, 1) := by decide +kernel
theorem dX7_angle_2 : decode cX7_angle 2 = .ok (.getfield 69, 3) := by decide +kernel
theorem dX7_angle_5 : decode cX7_angle 5 = .ok (.invokestatic 128, 3) := by decide +kernel
theorem dX7_angle_8 : decode cX7_angle 8 = .ok (.aload_n 0, 1) := by decide +kernel
theorem dX7_angle_9 : decode cX7_angle 9 = .ok (.getfield 18, 3) := by decide +kernel
theorem dX7_angle_12 : decode cX7_angle 12 = .ok (.iload_n 1, 1) := by decide +kernel
theorem dX7_angle_13 : decode cX7_angle 13 = .ok (.aaload, 1) := by decide +kernel
theorem dX7_angle_14 : decode cX7_angle 14 = .ok (.getfield 77, 3) := by decide +kernel
theorem dX7_angle_17 : decode cX7_angle 17 = .ok (.ireturn, 1) := by decide +kernel
theorem dX7_speed_0 : decode cX7_speed 0 = .ok (.iload_n 1, 1) := by decide +kernel
theorem dX7_speed_1 : decode cX7_speed 1 = .ok (.invokestatic 132, 3) := by decide +kernel
theorem dX7_speed_4 : decode cX7_speed 4 = .ok (.aload_n 0, 1) := by decide +kernel
theorem dX7_speed_5 : decode cX7_speed 5 = .ok (.getfield 12, 3) := by decide +kernel
theorem dX7_speed_8 : decode cX7_speed 8 = .ok (.getfield 87, 3) := by decide +kernel
theorem dX7_speed_11 : decode cX7_speed 11 = .ok (.iload_n 1, 1) := by decide +kernel
theorem dX7_speed_12 : decode cX7_speed 12 = .ok (.invokevirtual 180, 3) := by decide +kernel
theorem dX7_speed_15 : decode cX7_speed 15 = .ok (.ireturn, 1) := by decide +kernel
theorem dX7_count_0 : decode cX7_count 0 = .ok (.iload_n 1, 1) := by decide +kernel
theorem dX7_count_1 : decode cX7_count 1 = .ok (.tableswitch 114 0 6 #[43, 51, 59, 70, 81, 92, 103], 43) := by decide +kernel
theorem dX7_count_44 : decode cX7_count 44 = .ok (.aload_n 0, 1) := by decide +kernel
theorem dX7_count_45 : decode cX7_count 45 = .ok (.getfield 12, 3) := by decide +kernel
theorem dX7_count_48 : decode cX7_count 48 = .ok (.getfield 54, 3) := by decide +kernel
theorem dX7_count_51 : decode cX7_count 51 = .ok (.ireturn, 1) := by decide +kernel
theorem dX7_count_52 : decode cX7_count 52 = .ok (.aload_n 0, 1) := by decide +kernel
theorem dX7_count_53 : decode cX7_count 53 = .ok (.getfield 12, 3) := by decide +kernel
theorem dX7_count_56 : decode cX7_count 56 = .ok (.invokevirtual 183, 3) := by decide +kernel
theorem dX7_count_59 : decode cX7_count 59 = .ok (.ireturn, 1) := by decide +kernel
theorem dX7_count_60 : decode cX7_count 60 = .ok (.aload_n 0, 1) := by decide +kernel
theorem dX7_count_61 : decode cX7_count 61 = .ok (.getfield 12, 3) := by decide +kernel
theorem dX7_count_64 : decode cX7_count 64 = .ok (.getfield 187, 3) := by decide +kernel
theorem dX7_count_67 : decode cX7_count 67 = .ok (.getfield 191, 3) := by decide +kernel
theorem dX7_count_70 : decode cX7_count 70 = .ok (.ireturn, 1) := by decide +kernel
theorem dX7_count_71 : decode cX7_count 71 = .ok (.aload_n 0, 1) := by decide +kernel
theorem dX7_count_72 : decode cX7_count 72 = .ok (.getfield 12, 3) := by decide +kernel
theorem dX7_count_75 : decode cX7_count 75 = .ok (.getfield 187, 3) := by decide +kernel
theorem dX7_count_78 : decode cX7_count 78 = .ok (.getfield 196, 3) := by decide +kernel
theorem dX7_count_81 : decode cX7_count 81 = .ok (.ireturn, 1) := by decide +kernel
theorem dX7_count_82 : decode cX7_count 82 = .ok (.aload_n 0, 1) := by decide +kernel
theorem dX7_count_83 : decode cX7_count 83 = .ok (.getfield 12, 3) := by decide +kernel
theorem dX7_count_86 : decode cX7_count 86 = .ok (.getfield 187, 3) := by decide +kernel
theorem dX7_count_89 : decode cX7_count 89 = .ok (.getfield 199, 3) := by decide +kernel
theorem dX7_count_92 : decode cX7_count 92 = .ok (.ireturn, 1) := by decide +kernel
theorem dX7_count_93 : decode cX7_count 93 = .ok (.aload_n 0, 1) := by decide +kernel
theorem dX7_count_94 : decode cX7_count 94 = .ok (.getfield 12, 3) := by decide +kernel
theorem dX7_count_97 : decode cX7_count 97 = .ok (.getfield 187, 3) := by decide +kernel
theorem dX7_count_100 : decode cX7_count 100 = .ok (.getfield 202, 3) := by decide +kernel
theorem dX7_count_103 : decode cX7_count 103 = .ok (.ireturn, 1) := by decide +kernel
theorem dX7_count_104 : decode cX7_count 104 = .ok (.aload_n 0, 1) := by decide +kernel
theorem dX7_count_105 : decode cX7_count 105 = .ok (.getfield 12, 3) := by decide +kernel
theorem dX7_count_108 : decode cX7_count 108 = .ok (.getfield 187, 3) := by decide +kernel
theorem dX7_count_111 : decode cX7_count 111 = .ok (.getfield 205, 3) := by decide +kernel
theorem dX7_count_114 : decode cX7_count 114 = .ok (.ireturn, 1) := by decide +kernel
theorem dX7_count_115 : decode cX7_count 115 = .ok (.new 175, 3) := by decide +kernel
theorem dX7_count_118 : decode cX7_count 118 = .ok (.dup, 1) := by decide +kernel
theorem dX7_count_119 : decode cX7_count 119 = .ok (.ldc 208, 2) := by decide +kernel
theorem dX7_count_121 : decode cX7_count 121 = .ok (.invokespecial 179, 3) := by decide +kernel
theorem dX7_count_124 : decode cX7_count 124 = .ok (.athrow, 1) := by decide +kernel
theorem dX7_mass_0 : decode cX7_mass 0 = .ok (.iload_n 1, 1) := by decide +kernel
theorem dX7_mass_1 : decode cX7_mass 1 = .ok (.invokestatic 132, 3) := by decide +kernel
theorem dX7_mass_4 : decode cX7_mass 4 = .ok (.aload_n 0, 1) := by decide +kernel
theorem dX7_mass_5 : decode cX7_mass 5 = .ok (.getfield 12, 3) := by decide +kernel
theorem dX7_mass_8 : decode cX7_mass 8 = .ok (.aload_n 0, 1) := by decide +kernel
theorem dX7_mass_9 : decode cX7_mass 9 = .ok (.getfield 37, 3) := by decide +kernel
theorem dX7_mass_12 : decode cX7_mass 12 = .ok (.invokevirtual 124, 3) := by decide +kernel
theorem dX7_mass_15 : decode cX7_mass 15 = .ok (.aload_n 0, 1) := by decide +kernel
theorem dX7_mass_16 : decode cX7_mass 16 = .ok (.getfield 37, 3) := by decide +kernel
theorem dX7_mass_19 : decode cX7_mass 19 = .ok (.iload_n 1, 1) := by decide +kernel
theorem dX7_mass_20 : decode cX7_mass 20 = .ok (.iaload, 1) := by decide +kernel
theorem dX7_mass_21 : decode cX7_mass 21 = .ok (.ireturn, 1) := by decide +kernel
theorem dX7_sum_0 : decode cX7_sum 0 = .ok (.iload_n 1, 1) := by decide +kernel
theorem dX7_sum_1 : decode cX7_sum 1 = .ok (.tableswitch 72 0 3 #[31, 39, 50, 61], 31) := by decide +kernel
theorem dX7_sum_32 : decode cX7_sum 32 = .ok (.aload_n 0, 1) := by decide +kernel
theorem dX7_sum_33 : decode cX7_sum 33 = .ok (.getfield 12, 3) := by decide +kernel
theorem dX7_sum_36 : decode cX7_sum 36 = .ok (.invokevirtual 210, 3) := by decide +kernel
theorem dX7_sum_39 : decode cX7_sum 39 = .ok (.ireturn, 1) := by decide +kernel
theorem dX7_sum_40 : decode cX7_sum 40 = .ok (.aload_n 0, 1) := by decide +kernel
theorem dX7_sum_41 : decode cX7_sum 41 = .ok (.getfield 12, 3) := by decide +kernel
theorem dX7_sum_44 : decode cX7_sum 44 = .ok (.getfield 187, 3) := by decide +kernel
theorem dX7_sum_47 : decode cX7_sum 47 = .ok (.getfield 213, 3) := by decide +kernel
theorem dX7_sum_50 : decode cX7_sum 50 = .ok (.ireturn, 1) := by decide +kernel
theorem dX7_sum_51 : decode cX7_sum 51 = .ok (.aload_n 0, 1) := by decide +kernel
theorem dX7_sum_52 : decode cX7_sum 52 = .ok (.getfield 12, 3) := by decide +kernel
theorem dX7_sum_55 : decode cX7_sum 55 = .ok (.getfield 187, 3) := by decide +kernel
theorem dX7_sum_58 : decode cX7_sum 58 = .ok (.getfield 216, 3) := by decide +kernel
theorem dX7_sum_61 : decode cX7_sum 61 = .ok (.ireturn, 1) := by decide +kernel
theorem dX7_sum_62 : decode cX7_sum 62 = .ok (.aload_n 0, 1) := by decide +kernel
theorem dX7_sum_63 : decode cX7_sum 63 = .ok (.getfield 12, 3) := by decide +kernel
theorem dX7_sum_66 : decode cX7_sum 66 = .ok (.getfield 187, 3) := by decide +kernel
theorem dX7_sum_69 : decode cX7_sum 69 = .ok (.getfield 219, 3) := by decide +kernel
theorem dX7_sum_72 : decode cX7_sum 72 = .ok (.ireturn, 1) := by decide +kernel
theorem dX7_sum_73 : decode cX7_sum 73 = .ok (.new 175, 3) := by decide +kernel
theorem dX7_sum_76 : decode cX7_sum 76 = .ok (.dup, 1) := by decide +kernel
theorem dX7_sum_77 : decode cX7_sum 77 = .ok (.ldc 222, 2) := by decide +kernel
theorem dX7_sum_79 : decode cX7_sum 79 = .ok (.invokespecial 179, 3) := by decide +kernel
theorem dX7_sum_82 : decode cX7_sum 82 = .ok (.athrow, 1) := by decide +kernel
theorem dX7_momentum_0 : decode cX7_momentum 0 = .ok (.iload_n 1, 1) := by decide +kernel
theorem dX7_momentum_1 : decode cX7_momentum 1 = .ok (.tableswitch 102 0 5 #[39, 47, 58, 69, 80, 91], 39) := by decide +kernel
theorem dX7_momentum_40 : decode cX7_momentum 40 = .ok (.aload_n 0, 1) := by decide +kernel
theorem dX7_momentum_41 : decode cX7_momentum 41 = .ok (.getfield 12, 3) := by decide +kernel
theorem dX7_momentum_44 : decode cX7_momentum 44 = .ok (.invokevirtual 224, 3) := by decide +kernel
theorem dX7_momentum_47 : decode cX7_momentum 47 = .ok (.lreturn, 1) := by decide +kernel
theorem dX7_momentum_48 : decode cX7_momentum 48 = .ok (.aload_n 0, 1) := by decide +kernel
theorem dX7_momentum_49 : decode cX7_momentum 49 = .ok (.getfield 12, 3) := by decide +kernel
theorem dX7_momentum_52 : decode cX7_momentum 52 = .ok (.getfield 187, 3) := by decide +kernel
theorem dX7_momentum_55 : decode cX7_momentum 55 = .ok (.getfield 228, 3) := by decide +kernel
theorem dX7_momentum_58 : decode cX7_momentum 58 = .ok (.lreturn, 1) := by decide +kernel
theorem dX7_momentum_59 : decode cX7_momentum 59 = .ok (.aload_n 0, 1) := by decide +kernel
theorem dX7_momentum_60 : decode cX7_momentum 60 = .ok (.getfield 12, 3) := by decide +kernel
theorem dX7_momentum_63 : decode cX7_momentum 63 = .ok (.getfield 187, 3) := by decide +kernel
theorem dX7_momentum_66 : decode cX7_momentum 66 = .ok (.getfield 232, 3) := by decide +kernel
theorem dX7_momentum_69 : decode cX7_momentum 69 = .ok (.lreturn, 1) := by decide +kernel
theorem dX7_momentum_70 : decode cX7_momentum 70 = .ok (.aload_n 0, 1) := by decide +kernel
theorem dX7_momentum_71 : decode cX7_momentum 71 = .ok (.getfield 12, 3) := by decide +kernel
theorem dX7_momentum_74 : decode cX7_momentum 74 = .ok (.getfield 187, 3) := by decide +kernel
theorem dX7_momentum_77 : decode cX7_momentum 77 = .ok (.getfield 235, 3) := by decide +kernel
theorem dX7_momentum_80 : decode cX7_momentum 80 = .ok (.lreturn, 1) := by decide +kernel
theorem dX7_momentum_81 : decode cX7_momentum 81 = .ok (.aload_n 0, 1) := by decide +kernel
theorem dX7_momentum_82 : decode cX7_momentum 82 = .ok (.getfield 12, 3) := by decide +kernel
theorem dX7_momentum_85 : decode cX7_momentum 85 = .ok (.getfield 187, 3) := by decide +kernel
theorem dX7_momentum_88 : decode cX7_momentum 88 = .ok (.getfield 238, 3) := by decide +kernel
theorem dX7_momentum_91 : decode cX7_momentum 91 = .ok (.lreturn, 1) := by decide +kernel
theorem dX7_momentum_92 : decode cX7_momentum 92 = .ok (.aload_n 0, 1) := by decide +kernel
theorem dX7_momentum_93 : decode cX7_momentum 93 = .ok (.getfield 12, 3) := by decide +kernel
theorem dX7_momentum_96 : decode cX7_momentum 96 = .ok (.getfield 187, 3) := by decide +kernel
theorem dX7_momentum_99 : decode cX7_momentum 99 = .ok (.getfield 241, 3) := by decide +kernel
theorem dX7_momentum_102 : decode cX7_momentum 102 = .ok (.lreturn, 1) := by decide +kernel
theorem dX7_momentum_103 : decode cX7_momentum 103 = .ok (.new 175, 3) := by decide +kernel
theorem dX7_momentum_106 : decode cX7_momentum 106 = .ok (.dup, 1) := by decide +kernel
theorem dX7_momentum_107 : decode cX7_momentum 107 = .ok (.ldc 177, 2) := by decide +kernel
theorem dX7_momentum_109 : decode cX7_momentum 109 = .ok (.invokespecial 179, 3) := by decide +kernel
theorem dX7_momentum_112 : decode cX7_momentum 112 = .ok (.athrow, 1) := by decide +kernel
theorem dX7_momentumByLanes_0 : decode cX7_momentumByLanes 0 = .ok (.aload_n 0, 1) := by decide +kernel
theorem dX7_momentumByLanes_1 : decode cX7_momentumByLanes 1 = .ok (.getfield 12, 3) := by decide +kernel
theorem dX7_momentumByLanes_4 : decode cX7_momentumByLanes 4 = .ok (.aload_n 0, 1) := by decide +kernel
theorem dX7_momentumByLanes_5 : decode cX7_momentumByLanes 5 = .ok (.getfield 37, 3) := by decide +kernel
theorem dX7_momentumByLanes_8 : decode cX7_momentumByLanes 8 = .ok (.invokevirtual 124, 3) := by decide +kernel
theorem dX7_momentumByLanes_11 : decode cX7_momentumByLanes 11 = .ok (.lconst 0, 1) := by decide +kernel
theorem dX7_momentumByLanes_12 : decode cX7_momentumByLanes 12 = .ok (.lstore_n 1, 1) := by decide +kernel
theorem dX7_momentumByLanes_13 : decode cX7_momentumByLanes 13 = .ok (.iconst 0, 1) := by decide +kernel
theorem dX7_momentumByLanes_14 : decode cX7_momentumByLanes 14 = .ok (.istore_n 3, 1) := by decide +kernel
theorem dX7_momentumByLanes_15 : decode cX7_momentumByLanes 15 = .ok (.iload_n 3, 1) := by decide +kernel
theorem dX7_momentumByLanes_16 : decode cX7_momentumByLanes 16 = .ok (.bipush 64, 2) := by decide +kernel
theorem dX7_momentumByLanes_18 : decode cX7_momentumByLanes 18 = .ok (.if_icmp .ge 25, 3) := by decide +kernel
theorem dX7_momentumByLanes_21 : decode cX7_momentumByLanes 21 = .ok (.lload_n 1, 1) := by decide +kernel
theorem dX7_momentumByLanes_22 : decode cX7_momentumByLanes 22 = .ok (.aload_n 0, 1) := by decide +kernel
theorem dX7_momentumByLanes_23 : decode cX7_momentumByLanes 23 = .ok (.getfield 37, 3) := by decide +kernel
theorem dX7_momentumByLanes_26 : decode cX7_momentumByLanes 26 = .ok (.iload_n 3, 1) := by decide +kernel
theorem dX7_momentumByLanes_27 : decode cX7_momentumByLanes 27 = .ok (.iaload, 1) := by decide +kernel
theorem dX7_momentumByLanes_28 : decode cX7_momentumByLanes 28 = .ok (.i2l, 1) := by decide +kernel
theorem dX7_momentumByLanes_29 : decode cX7_momentumByLanes 29 = .ok (.iload_n 3, 1) := by decide +kernel
theorem dX7_momentumByLanes_30 : decode cX7_momentumByLanes 30 = .ok (.invokestatic 244, 3) := by decide +kernel
theorem dX7_momentumByLanes_33 : decode cX7_momentumByLanes 33 = .ok (.i2l, 1) := by decide +kernel
theorem dX7_momentumByLanes_34 : decode cX7_momentumByLanes 34 = .ok (.lmul, 1) := by decide +kernel
theorem dX7_momentumByLanes_35 : decode cX7_momentumByLanes 35 = .ok (.ladd, 1) := by decide +kernel
theorem dX7_momentumByLanes_36 : decode cX7_momentumByLanes 36 = .ok (.lstore_n 1, 1) := by decide +kernel
theorem dX7_momentumByLanes_37 : decode cX7_momentumByLanes 37 = .ok (.iinc 3 1, 3) := by decide +kernel
theorem dX7_momentumByLanes_40 : decode cX7_momentumByLanes 40 = .ok (.goto (-25), 3) := by decide +kernel
theorem dX7_momentumByLanes_43 : decode cX7_momentumByLanes 43 = .ok (.lload_n 1, 1) := by decide +kernel
theorem dX7_momentumByLanes_44 : decode cX7_momentumByLanes 44 = .ok (.lreturn, 1) := by decide +kernel
theorem dX7_requireRange_0 : decode cX7_requireRange 0 = .ok (.iload_n 0, 1) := by decide +kernel
theorem dX7_requireRange_1 : decode cX7_requireRange 1 = .ok (.iload_n 1, 1) := by decide +kernel
theorem dX7_requireRange_2 : decode cX7_requireRange 2 = .ok (.if_icmp .lt 8, 3) := by decide +kernel
theorem dX7_requireRange_5 : decode cX7_requireRange 5 = .ok (.iload_n 0, 1) := by decide +kernel
theorem dX7_requireRange_6 : decode cX7_requireRange 6 = .ok (.iload_n 2, 1) := by decide +kernel
theorem dX7_requireRange_7 : decode cX7_requireRange 7 = .ok (.if_icmp .le 14, 3) := by decide +kernel
theorem dX7_requireRange_10 : decode cX7_requireRange 10 = .ok (.new 175, 3) := by decide +kernel
theorem dX7_requireRange_13 : decode cX7_requireRange 13 = .ok (.dup, 1) := by decide +kernel
theorem dX7_requireRange_14 : decode cX7_requireRange 14 = .ok (.ldc_w 264, 3) := by decide +kernel
theorem dX7_requireRange_17 : decode cX7_requireRange 17 = .ok (.invokespecial 179, 3) := by decide +kernel
theorem dX7_requireRange_20 : decode cX7_requireRange 20 = .ok (.athrow, 1) := by decide +kernel
theorem dX7_requireRange_21 : decode cX7_requireRange 21 = .ok (.return_, 1) := by decide +kernel
theorem dX7_requireLane_0 : decode cX7_requireLane 0 = .ok (.iload_n 0, 1) := by decide +kernel
theorem dX7_requireLane_1 : decode cX7_requireLane 1 = .ok (.iconst 0, 1) := by decide +kernel
theorem dX7_requireLane_2 : decode cX7_requireLane 2 = .ok (.bipush 63, 2) := by decide +kernel
theorem dX7_requireLane_4 : decode cX7_requireLane 4 = .ok (.invokestatic 51, 3) := by decide +kernel
theorem dX7_requireLane_7 : decode cX7_requireLane 7 = .ok (.return_, 1) := by decide +kernel
theorem dX7_requirePlace_0 : decode cX7_requirePlace 0 = .ok (.iload_n 0, 1) := by decide +kernel
theorem dX7_requirePlace_1 : decode cX7_requirePlace 1 = .ok (.invokestatic 132, 3) := by decide +kernel
theorem dX7_requirePlace_4 : decode cX7_requirePlace 4 = .ok (.iload_n 1, 1) := by decide +kernel
theorem dX7_requirePlace_5 : decode cX7_requirePlace 5 = .ok (.iconst 0, 1) := by decide +kernel
theorem dX7_requirePlace_6 : decode cX7_requirePlace 6 = .ok (.ldc_w 266, 3) := by decide +kernel
theorem dX7_requirePlace_9 : decode cX7_requirePlace 9 = .ok (.invokestatic 51, 3) := by decide +kernel
theorem dX7_requirePlace_12 : decode cX7_requirePlace 12 = .ok (.iload_n 2, 1) := by decide +kernel
theorem dX7_requirePlace_13 : decode cX7_requirePlace 13 = .ok (.iconst 1, 1) := by decide +kernel
theorem dX7_requirePlace_14 : decode cX7_requirePlace 14 = .ok (.sipush 10000, 3) := by decide +kernel
theorem dX7_requirePlace_17 : decode cX7_requirePlace 17 = .ok (.invokestatic 51, 3) := by decide +kernel
theorem dX7_requirePlace_20 : decode cX7_requirePlace 20 = .ok (.return_, 1) := by decide +kernel
theorem dX7_requireNumber_0 : decode cX7_requireNumber 0 = .ok (.iload_n 0, 1) := by decide +kernel
theorem dX7_requireNumber_1 : decode cX7_requireNumber 1 = .ok (.ifCond .lt 8, 3) := by decide +kernel
theorem dX7_requireNumber_4 : decode cX7_requireNumber 4 = .ok (.iload_n 0, 1) := by decide +kernel
theorem dX7_requireNumber_5 : decode cX7_requireNumber 5 = .ok (.iload_n 1, 1) := by decide +kernel
theorem dX7_requireNumber_6 : decode cX7_requireNumber 6 = .ok (.if_icmp .lt 14, 3) := by decide +kernel
theorem dX7_requireNumber_9 : decode cX7_requireNumber 9 = .ok (.new 267, 3) := by decide +kernel
theorem dX7_requireNumber_12 : decode cX7_requireNumber 12 = .ok (.dup, 1) := by decide +kernel
theorem dX7_requireNumber_13 : decode cX7_requireNumber 13 = .ok (.ldc_w 269, 3) := by decide +kernel
theorem dX7_requireNumber_16 : decode cX7_requireNumber 16 = .ok (.invokespecial 271, 3) := by decide +kernel
theorem dX7_requireNumber_19 : decode cX7_requireNumber 19 = .ok (.athrow, 1) := by decide +kernel
theorem dX7_requireNumber_20 : decode cX7_requireNumber 20 = .ok (.return_, 1) := by decide +kernel
theorem dX7_radiusOf_0 : decode cX7_radiusOf 0 = .ok (.iload_n 0, 1) := by decide +kernel
theorem dX7_radiusOf_1 : decode cX7_radiusOf 1 = .ok (.bipush 20, 2) := by decide +kernel
theorem dX7_radiusOf_3 : decode cX7_radiusOf 3 = .ok (.iadd, 1) := by decide +kernel
theorem dX7_radiusOf_4 : decode cX7_radiusOf 4 = .ok (.ireturn, 1) := by decide +kernel
theorem dX7_turned_0 : decode cX7_turned 0 = .ok (.iload_n 0, 1) := by decide +kernel
theorem dX7_turned_1 : decode cX7_turned 1 = .ok (.iload_n 1, 1) := by decide +kernel
theorem dX7_turned_2 : decode cX7_turned 2 = .ok (.iadd, 1) := by decide +kernel
theorem dX7_turned_3 : decode cX7_turned 3 = .ok (.ldc_w 272, 3) := by decide +kernel
theorem dX7_turned_6 : decode cX7_turned 6 = .ok (.irem, 1) := by decide +kernel
theorem dX7_turned_7 : decode cX7_turned 7 = .ok (.ireturn, 1) := by decide +kernel
theorem dX7_anglesApart_0 : decode cX7_anglesApart 0 = .ok (.iload_n 0, 1) := by decide +kernel
theorem dX7_anglesApart_1 : decode cX7_anglesApart 1 = .ok (.iload_n 1, 1) := by decide +kernel
theorem dX7_anglesApart_2 : decode cX7_anglesApart 2 = .ok (.isub, 1) := by decide +kernel
theorem dX7_anglesApart_3 : decode cX7_anglesApart 3 = .ok (.invokestatic 273, 3) := by decide +kernel
theorem dX7_anglesApart_6 : decode cX7_anglesApart 6 = .ok (.istore_n 2, 1) := by decide +kernel
theorem dX7_anglesApart_7 : decode cX7_anglesApart 7 = .ok (.iload_n 2, 1) := by decide +kernel
theorem dX7_anglesApart_8 : decode cX7_anglesApart 8 = .ok (.ldc_w 272, 3) := by decide +kernel
theorem dX7_anglesApart_11 : decode cX7_anglesApart 11 = .ok (.iload_n 2, 1) := by decide +kernel
theorem dX7_anglesApart_12 : decode cX7_anglesApart 12 = .ok (.isub, 1) := by decide +kernel
theorem dX7_anglesApart_13 : decode cX7_anglesApart 13 = .ok (.invokestatic 278, 3) := by decide +kernel
theorem dX7_anglesApart_16 : decode cX7_anglesApart 16 = .ok (.ireturn, 1) := by decide +kernel
theorem dX7_widthOf_0 : decode cX7_widthOf 0 = .ok (.iconst 0, 1) := by decide +kernel
theorem dX7_widthOf_1 : decode cX7_widthOf 1 = .ok (.istore_n 1, 1) := by decide +kernel
theorem dX7_widthOf_2 : decode cX7_widthOf 2 = .ok (.iconst 1, 1) := by decide +kernel
theorem dX7_widthOf_3 : decode cX7_widthOf 3 = .ok (.istore_n 2, 1) := by decide +kernel
theorem dX7_widthOf_4 : decode cX7_widthOf 4 = .ok (.iload_n 2, 1) := by decide +kernel
theorem dX7_widthOf_5 : decode cX7_widthOf 5 = .ok (.bipush 100, 2) := by decide +kernel
theorem dX7_widthOf_7 : decode cX7_widthOf 7 = .ok (.if_icmp .gt 18, 3) := by decide +kernel
theorem dX7_widthOf_10 : decode cX7_widthOf 10 = .ok (.iload_n 2, 1) := by decide +kernel
theorem dX7_widthOf_11 : decode cX7_widthOf 11 = .ok (.iload_n 2, 1) := by decide +kernel
theorem dX7_widthOf_12 : decode cX7_widthOf 12 = .ok (.imul, 1) := by decide +kernel
theorem dX7_widthOf_13 : decode cX7_widthOf 13 = .ok (.iload_n 0, 1) := by decide +kernel
theorem dX7_widthOf_14 : decode cX7_widthOf 14 = .ok (.if_icmp .gt 11, 3) := by decide +kernel
theorem dX7_widthOf_17 : decode cX7_widthOf 17 = .ok (.iload_n 2, 1) := by decide +kernel
theorem dX7_widthOf_18 : decode cX7_widthOf 18 = .ok (.istore_n 1, 1) := by decide +kernel
theorem dX7_widthOf_19 : decode cX7_widthOf 19 = .ok (.iinc 2 1, 3) := by decide +kernel
theorem dX7_widthOf_22 : decode cX7_widthOf 22 = .ok (.goto (-18), 3) := by decide +kernel
