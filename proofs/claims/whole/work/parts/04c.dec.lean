theorem dX7_ratioOf_68 : decode cX7_ratioOf 68 = .ok (.iload 5, 2) := by decide +kernel
theorem dX7_ratioOf_70 : decode cX7_ratioOf 70 = .ok (.imul, 1) := by decide +kernel
theorem dX7_ratioOf_71 : decode cX7_ratioOf 71 = .ok (.invokestatic 297, 3) := by decide +kernel
theorem dX7_ratioOf_74 : decode cX7_ratioOf 74 = .ok (.ifCond .eq 12, 3) := by decide +kernel
theorem dX7_ratioOf_77 : decode cX7_ratioOf 77 = .ok (.bipush 10, 2) := by decide +kernel
theorem dX7_ratioOf_79 : decode cX7_ratioOf 79 = .ok (.iload 7, 2) := by decide +kernel
theorem dX7_ratioOf_81 : decode cX7_ratioOf 81 = .ok (.imul, 1) := by decide +kernel
theorem dX7_ratioOf_82 : decode cX7_ratioOf 82 = .ok (.iload 8, 2) := by decide +kernel
theorem dX7_ratioOf_84 : decode cX7_ratioOf 84 = .ok (.iadd, 1) := by decide +kernel
theorem dX7_ratioOf_85 : decode cX7_ratioOf 85 = .ok (.ireturn, 1) := by decide +kernel
theorem dX7_ratioOf_86 : decode cX7_ratioOf 86 = .ok (.iload 7, 2) := by decide +kernel
theorem dX7_ratioOf_88 : decode cX7_ratioOf 88 = .ok (.iload 6, 2) := by decide +kernel
theorem dX7_ratioOf_90 : decode cX7_ratioOf 90 = .ok (.iadd, 1) := by decide +kernel
theorem dX7_ratioOf_91 : decode cX7_ratioOf 91 = .ok (.istore 9, 2) := by decide +kernel
theorem dX7_ratioOf_93 : decode cX7_ratioOf 93 = .ok (.iload 9, 2) := by decide +kernel
theorem dX7_ratioOf_95 : decode cX7_ratioOf 95 = .ok (.bipush 9, 2) := by decide +kernel
theorem dX7_ratioOf_97 : decode cX7_ratioOf 97 = .ok (.if_icmp .gt 28, 3) := by decide +kernel
theorem dX7_ratioOf_100 : decode cX7_ratioOf 100 = .ok (.iload 7, 2) := by decide +kernel
theorem dX7_ratioOf_102 : decode cX7_ratioOf 102 = .ok (.iload 4, 2) := by decide +kernel
theorem dX7_ratioOf_104 : decode cX7_ratioOf 104 = .ok (.imul, 1) := by decide +kernel
theorem dX7_ratioOf_105 : decode cX7_ratioOf 105 = .ok (.iload 9, 2) := by decide +kernel
theorem dX7_ratioOf_107 : decode cX7_ratioOf 107 = .ok (.iload 5, 2) := by decide +kernel
theorem dX7_ratioOf_109 : decode cX7_ratioOf 109 = .ok (.imul, 1) := by decide +kernel
theorem dX7_ratioOf_110 : decode cX7_ratioOf 110 = .ok (.invokestatic 297, 3) := by decide +kernel
theorem dX7_ratioOf_113 : decode cX7_ratioOf 113 = .ok (.ifCond .eq 12, 3) := by decide +kernel
theorem dX7_ratioOf_116 : decode cX7_ratioOf 116 = .ok (.bipush 10, 2) := by decide +kernel
theorem dX7_ratioOf_118 : decode cX7_ratioOf 118 = .ok (.iload 7, 2) := by decide +kernel
theorem dX7_ratioOf_120 : decode cX7_ratioOf 120 = .ok (.imul, 1) := by decide +kernel
theorem dX7_ratioOf_121 : decode cX7_ratioOf 121 = .ok (.iload 9, 2) := by decide +kernel
theorem dX7_ratioOf_123 : decode cX7_ratioOf 123 = .ok (.iadd, 1) := by decide +kernel
theorem dX7_ratioOf_124 : decode cX7_ratioOf 124 = .ok (.ireturn, 1) := by decide +kernel
theorem dX7_ratioOf_125 : decode cX7_ratioOf 125 = .ok (.iinc 7 1, 3) := by decide +kernel
theorem dX7_ratioOf_128 : decode cX7_ratioOf 128 = .ok (.goto (-87), 3) := by decide +kernel
theorem dX7_ratioOf_131 : decode cX7_ratioOf 131 = .ok (.iinc 6 1, 3) := by decide +kernel
theorem dX7_ratioOf_134 : decode cX7_ratioOf 134 = .ok (.goto (-102), 3) := by decide +kernel
theorem dX7_ratioOf_137 : decode cX7_ratioOf 137 = .ok (.iconst (-1), 1) := by decide +kernel
theorem dX7_ratioOf_138 : decode cX7_ratioOf 138 = .ok (.ireturn, 1) := by decide +kernel
theorem dX7_inTune_0 : decode cX7_inTune 0 = .ok (.iload_n 0, 1) := by decide +kernel
theorem dX7_inTune_1 : decode cX7_inTune 1 = .ok (.iload_n 1, 1) := by decide +kernel
theorem dX7_inTune_2 : decode cX7_inTune 2 = .ok (.isub, 1) := by decide +kernel
theorem dX7_inTune_3 : decode cX7_inTune 3 = .ok (.invokestatic 273, 3) := by decide +kernel
theorem dX7_inTune_6 : decode cX7_inTune 6 = .ok (.bipush 20, 2) := by decide +kernel
theorem dX7_inTune_8 : decode cX7_inTune 8 = .ok (.if_icmp .gt 7, 3) := by decide +kernel
theorem dX7_inTune_11 : decode cX7_inTune 11 = .ok (.iconst 1, 1) := by decide +kernel
theorem dX7_inTune_12 : decode cX7_inTune 12 = .ok (.goto 4, 3) := by decide +kernel
theorem dX7_inTune_15 : decode cX7_inTune 15 = .ok (.iconst 0, 1) := by decide +kernel
theorem dX7_inTune_16 : decode cX7_inTune 16 = .ok (.ireturn, 1) := by decide +kernel
theorem dX7_surveyGaps_0 : decode cX7_surveyGaps 0 = .ok (.aload_n 0, 1) := by decide +kernel
theorem dX7_surveyGaps_1 : decode cX7_surveyGaps 1 = .ok (.getfield 12, 3) := by decide +kernel
theorem dX7_surveyGaps_4 : decode cX7_surveyGaps 4 = .ok (.aload_n 0, 1) := by decide +kernel
theorem dX7_surveyGaps_5 : decode cX7_surveyGaps 5 = .ok (.getfield 37, 3) := by decide +kernel
theorem dX7_surveyGaps_8 : decode cX7_surveyGaps 8 = .ok (.invokevirtual 124, 3) := by decide +kernel
theorem dX7_surveyGaps_11 : decode cX7_surveyGaps 11 = .ok (.iconst 0, 1) := by decide +kernel
theorem dX7_surveyGaps_12 : decode cX7_surveyGaps 12 = .ok (.istore_n 1, 1) := by decide +kernel
theorem dX7_surveyGaps_13 : decode cX7_surveyGaps 13 = .ok (.iconst (-1), 1) := by decide +kernel
theorem dX7_surveyGaps_14 : decode cX7_surveyGaps 14 = .ok (.istore_n 2, 1) := by decide +kernel
theorem dX7_surveyGaps_15 : decode cX7_surveyGaps 15 = .ok (.iconst 0, 1) := by decide +kernel
theorem dX7_surveyGaps_16 : decode cX7_surveyGaps 16 = .ok (.istore_n 3, 1) := by decide +kernel
theorem dX7_surveyGaps_17 : decode cX7_surveyGaps 17 = .ok (.iload_n 3, 1) := by decide +kernel
theorem dX7_surveyGaps_18 : decode cX7_surveyGaps 18 = .ok (.bipush 64, 2) := by decide +kernel
theorem dX7_surveyGaps_20 : decode cX7_surveyGaps 20 = .ok (.if_icmp .ge 59, 3) := by decide +kernel
theorem dX7_surveyGaps_23 : decode cX7_surveyGaps 23 = .ok (.aload_n 0, 1) := by decide +kernel
theorem dX7_surveyGaps_24 : decode cX7_surveyGaps 24 = .ok (.getfield 37, 3) := by decide +kernel
theorem dX7_surveyGaps_27 : decode cX7_surveyGaps 27 = .ok (.iload_n 3, 1) := by decide +kernel
theorem dX7_surveyGaps_28 : decode cX7_surveyGaps 28 = .ok (.iaload, 1) := by decide +kernel
theorem dX7_surveyGaps_29 : decode cX7_surveyGaps 29 = .ok (.ifCond .le 44, 3) := by decide +kernel
theorem dX7_surveyGaps_32 : decode cX7_surveyGaps 32 = .ok (.iload_n 2, 1) := by decide +kernel
theorem dX7_surveyGaps_33 : decode cX7_surveyGaps 33 = .ok (.iconst (-1), 1) := by decide +kernel
theorem dX7_surveyGaps_34 : decode cX7_surveyGaps 34 = .ok (.if_icmp .eq 37, 3) := by decide +kernel
theorem dX7_surveyGaps_37 : decode cX7_surveyGaps 37 = .ok (.iload_n 3, 1) := by decide +kernel
theorem dX7_surveyGaps_38 : decode cX7_surveyGaps 38 = .ok (.iload_n 2, 1) := by decide +kernel
theorem dX7_surveyGaps_39 : decode cX7_surveyGaps 39 = .ok (.isub, 1) := by decide +kernel
theorem dX7_surveyGaps_40 : decode cX7_surveyGaps 40 = .ok (.iconst 2, 1) := by decide +kernel
theorem dX7_surveyGaps_41 : decode cX7_surveyGaps 41 = .ok (.if_icmp .le 30, 3) := by decide +kernel
theorem dX7_surveyGaps_44 : decode cX7_surveyGaps 44 = .ok (.iload_n 1, 1) := by decide +kernel
theorem dX7_surveyGaps_45 : decode cX7_surveyGaps 45 = .ok (.bipush 21, 2) := by decide +kernel
theorem dX7_surveyGaps_47 : decode cX7_surveyGaps 47 = .ok (.if_icmp .ge 24, 3) := by decide +kernel
theorem dX7_surveyGaps_50 : decode cX7_surveyGaps 50 = .ok (.aload_n 0, 1) := by decide +kernel
theorem dX7_surveyGaps_51 : decode cX7_surveyGaps 51 = .ok (.getfield 41, 3) := by decide +kernel
theorem dX7_surveyGaps_54 : decode cX7_surveyGaps 54 = .ok (.iload_n 1, 1) := by decide +kernel
theorem dX7_surveyGaps_55 : decode cX7_surveyGaps 55 = .ok (.iload_n 2, 1) := by decide +kernel
theorem dX7_surveyGaps_56 : decode cX7_surveyGaps 56 = .ok (.iconst 1, 1) := by decide +kernel
theorem dX7_surveyGaps_57 : decode cX7_surveyGaps 57 = .ok (.iadd, 1) := by decide +kernel
theorem dX7_surveyGaps_58 : decode cX7_surveyGaps 58 = .ok (.iastore, 1) := by decide +kernel
theorem dX7_surveyGaps_59 : decode cX7_surveyGaps 59 = .ok (.aload_n 0, 1) := by decide +kernel
theorem dX7_surveyGaps_60 : decode cX7_surveyGaps 60 = .ok (.getfield 44, 3) := by decide +kernel
theorem dX7_surveyGaps_63 : decode cX7_surveyGaps 63 = .ok (.iload_n 1, 1) := by decide +kernel
theorem dX7_surveyGaps_64 : decode cX7_surveyGaps 64 = .ok (.iload_n 3, 1) := by decide +kernel
theorem dX7_surveyGaps_65 : decode cX7_surveyGaps 65 = .ok (.iconst 1, 1) := by decide +kernel
theorem dX7_surveyGaps_66 : decode cX7_surveyGaps 66 = .ok (.isub, 1) := by decide +kernel
theorem dX7_surveyGaps_67 : decode cX7_surveyGaps 67 = .ok (.iastore, 1) := by decide +kernel
theorem dX7_surveyGaps_68 : decode cX7_surveyGaps 68 = .ok (.iinc 1 1, 3) := by decide +kernel
theorem dX7_surveyGaps_71 : decode cX7_surveyGaps 71 = .ok (.iload_n 3, 1) := by decide +kernel
theorem dX7_surveyGaps_72 : decode cX7_surveyGaps 72 = .ok (.istore_n 2, 1) := by decide +kernel
theorem dX7_surveyGaps_73 : decode cX7_surveyGaps 73 = .ok (.iinc 3 1, 3) := by decide +kernel
theorem dX7_surveyGaps_76 : decode cX7_surveyGaps 76 = .ok (.goto (-59), 3) := by decide +kernel
theorem dX7_surveyGaps_79 : decode cX7_surveyGaps 79 = .ok (.iload_n 1, 1) := by decide +kernel
theorem dX7_surveyGaps_80 : decode cX7_surveyGaps 80 = .ok (.ireturn, 1) := by decide +kernel
theorem dX7_keeperOf_0 : decode cX7_keeperOf 0 = .ok (.iconst 0, 1) := by decide +kernel
theorem dX7_keeperOf_1 : decode cX7_keeperOf 1 = .ok (.istore_n 3, 1) := by decide +kernel
theorem dX7_keeperOf_2 : decode cX7_keeperOf 2 = .ok (.iload_n 3, 1) := by decide +kernel
theorem dX7_keeperOf_3 : decode cX7_keeperOf 3 = .ok (.aload_n 0, 1) := by decide +kernel
theorem dX7_keeperOf_4 : decode cX7_keeperOf 4 = .ok (.getfield 69, 3) := by decide +kernel
theorem dX7_keeperOf_7 : decode cX7_keeperOf 7 = .ok (.if_icmp .ge 37, 3) := by decide +kernel
theorem dX7_keeperOf_10 : decode cX7_keeperOf 10 = .ok (.aload_n 0, 1) := by decide +kernel
theorem dX7_keeperOf_11 : decode cX7_keeperOf 11 = .ok (.getfield 18, 3) := by decide +kernel
theorem dX7_keeperOf_14 : decode cX7_keeperOf 14 = .ok (.iload_n 3, 1) := by decide +kernel
theorem dX7_keeperOf_15 : decode cX7_keeperOf 15 = .ok (.aaload, 1) := by decide +kernel
theorem dX7_keeperOf_16 : decode cX7_keeperOf 16 = .ok (.getfield 74, 3) := by decide +kernel
theorem dX7_keeperOf_19 : decode cX7_keeperOf 19 = .ok (.iload_n 1, 1) := by decide +kernel
theorem dX7_keeperOf_20 : decode cX7_keeperOf 20 = .ok (.if_icmp .lt 18, 3) := by decide +kernel
theorem dX7_keeperOf_23 : decode cX7_keeperOf 23 = .ok (.aload_n 0, 1) := by decide +kernel
theorem dX7_keeperOf_24 : decode cX7_keeperOf 24 = .ok (.getfield 18, 3) := by decide +kernel
theorem dX7_keeperOf_27 : decode cX7_keeperOf 27 = .ok (.iload_n 3, 1) := by decide +kernel
theorem dX7_keeperOf_28 : decode cX7_keeperOf 28 = .ok (.aaload, 1) := by decide +kernel
theorem dX7_keeperOf_29 : decode cX7_keeperOf 29 = .ok (.getfield 74, 3) := by decide +kernel
theorem dX7_keeperOf_32 : decode cX7_keeperOf 32 = .ok (.iload_n 2, 1) := by decide +kernel
theorem dX7_keeperOf_33 : decode cX7_keeperOf 33 = .ok (.if_icmp .gt 5, 3) := by decide +kernel
theorem dX7_keeperOf_36 : decode cX7_keeperOf 36 = .ok (.iload_n 3, 1) := by decide +kernel
theorem dX7_keeperOf_37 : decode cX7_keeperOf 37 = .ok (.ireturn, 1) := by decide +kernel
theorem dX7_keeperOf_38 : decode cX7_keeperOf 38 = .ok (.iinc 3 1, 3) := by decide +kernel
theorem dX7_keeperOf_41 : decode cX7_keeperOf 41 = .ok (.goto (-39), 3) := by decide +kernel
theorem dX7_keeperOf_44 : decode cX7_keeperOf 44 = .ok (.iconst 0, 1) := by decide +kernel
theorem dX7_keeperOf_45 : decode cX7_keeperOf 45 = .ok (.istore_n 3, 1) := by decide +kernel
theorem dX7_keeperOf_46 : decode cX7_keeperOf 46 = .ok (.iload_n 3, 1) := by decide +kernel
theorem dX7_keeperOf_47 : decode cX7_keeperOf 47 = .ok (.aload_n 0, 1) := by decide +kernel
theorem dX7_keeperOf_48 : decode cX7_keeperOf 48 = .ok (.getfield 69, 3) := by decide +kernel
theorem dX7_keeperOf_51 : decode cX7_keeperOf 51 = .ok (.if_icmp .ge 47, 3) := by decide +kernel
theorem dX7_keeperOf_54 : decode cX7_keeperOf 54 = .ok (.aload_n 0, 1) := by decide +kernel
theorem dX7_keeperOf_55 : decode cX7_keeperOf 55 = .ok (.aload_n 0, 1) := by decide +kernel
theorem dX7_keeperOf_56 : decode cX7_keeperOf 56 = .ok (.getfield 18, 3) := by decide +kernel
theorem dX7_keeperOf_59 : decode cX7_keeperOf 59 = .ok (.iload_n 3, 1) := by decide +kernel
theorem dX7_keeperOf_60 : decode cX7_keeperOf 60 = .ok (.aaload, 1) := by decide +kernel
theorem dX7_keeperOf_61 : decode cX7_keeperOf 61 = .ok (.iload_n 1, 1) := by decide +kernel
theorem dX7_keeperOf_62 : decode cX7_keeperOf 62 = .ok (.iconst 1, 1) := by decide +kernel
theorem dX7_keeperOf_63 : decode cX7_keeperOf 63 = .ok (.isub, 1) := by decide +kernel
theorem dX7_keeperOf_64 : decode cX7_keeperOf 64 = .ok (.iconst 2, 1) := by decide +kernel
theorem dX7_keeperOf_65 : decode cX7_keeperOf 65 = .ok (.invokevirtual 247, 3) := by decide +kernel
theorem dX7_keeperOf_68 : decode cX7_keeperOf 68 = .ok (.iconst (-1), 1) := by decide +kernel
theorem dX7_keeperOf_69 : decode cX7_keeperOf 69 = .ok (.if_icmp .ne 21, 3) := by decide +kernel
theorem dX7_keeperOf_72 : decode cX7_keeperOf 72 = .ok (.aload_n 0, 1) := by decide +kernel
theorem dX7_keeperOf_73 : decode cX7_keeperOf 73 = .ok (.aload_n 0, 1) := by decide +kernel
theorem dX7_keeperOf_74 : decode cX7_keeperOf 74 = .ok (.getfield 18, 3) := by decide +kernel
theorem dX7_keeperOf_77 : decode cX7_keeperOf 77 = .ok (.iload_n 3, 1) := by decide +kernel
theorem dX7_keeperOf_78 : decode cX7_keeperOf 78 = .ok (.aaload, 1) := by decide +kernel
theorem dX7_keeperOf_79 : decode cX7_keeperOf 79 = .ok (.iload_n 2, 1) := by decide +kernel
theorem dX7_keeperOf_80 : decode cX7_keeperOf 80 = .ok (.iconst 1, 1) := by decide +kernel
theorem dX7_keeperOf_81 : decode cX7_keeperOf 81 = .ok (.iadd, 1) := by decide +kernel
theorem dX7_keeperOf_82 : decode cX7_keeperOf 82 = .ok (.iconst 2, 1) := by decide +kernel
theorem dX7_keeperOf_83 : decode cX7_keeperOf 83 = .ok (.invokevirtual 247, 3) := by decide +kernel
theorem dX7_keeperOf_86 : decode cX7_keeperOf 86 = .ok (.iconst (-1), 1) := by decide +kernel
theorem dX7_keeperOf_87 : decode cX7_keeperOf 87 = .ok (.if_icmp .eq 5, 3) := by decide +kernel
theorem dX7_keeperOf_90 : decode cX7_keeperOf 90 = .ok (.iload_n 3, 1) := by decide +kernel
theorem dX7_keeperOf_91 : decode cX7_keeperOf 91 = .ok (.ireturn, 1) := by decide +kernel
theorem dX7_keeperOf_92 : decode cX7_keeperOf 92 = .ok (.iinc 3 1, 3) := by decide +kernel
theorem dX7_keeperOf_95 : decode cX7_keeperOf 95 = .ok (.goto (-49), 3) := by decide +kernel
theorem dX7_keeperOf_98 : decode cX7_keeperOf 98 = .ok (.iconst (-1), 1) := by decide +kernel
theorem dX7_keeperOf_99 : decode cX7_keeperOf 99 = .ok (.ireturn, 1) := by decide +kernel
theorem dX8_init_0 : decode cX8_init 0 = .ok (.aload_n 0, 1) := by decide +kernel
theorem dX8_init_1 : decode cX8_init 1 = .ok (.invokespecial 1, 3) := by decide +kernel
theorem dX8_init_4 : decode cX8_init 4 = .ok (.aload_n 0, 1) := by decide +kernel
theorem dX8_init_5 : decode cX8_init 5 = .ok (.bipush 20, 2) := by decide +kernel
theorem dX8_init_7 : decode cX8_init 7 = .ok (.putfield 7, 3) := by decide +kernel
theorem dX8_init_10 : decode cX8_init 10 = .ok (.aload_n 0, 1) := by decide +kernel
theorem dX8_init_11 : decode cX8_init 11 = .ok (.bipush 80, 2) := by decide +kernel
theorem dX8_init_13 : decode cX8_init 13 = .ok (.putfield 13, 3) := by decide +kernel
theorem dX8_init_16 : decode cX8_init 16 = .ok (.aload_n 0, 1) := by decide +kernel
theorem dX8_init_17 : decode cX8_init 17 = .ok (.bipush 50, 2) := by decide +kernel
theorem dX8_init_19 : decode cX8_init 19 = .ok (.putfield 16, 3) := by decide +kernel
theorem dX8_init_22 : decode cX8_init 22 = .ok (.aload_n 0, 1) := by decide +kernel
theorem dX8_init_23 : decode cX8_init 23 = .ok (.bipush 80, 2) := by decide +kernel
theorem dX8_init_25 : decode cX8_init 25 = .ok (.newarray .int, 2) := by decide +kernel
theorem dX8_init_27 : decode cX8_init 27 = .ok (.putfield 19, 3) := by decide +kernel
theorem dX8_init_30 : decode cX8_init 30 = .ok (.aload_n 0, 1) := by decide +kernel
theorem dX8_init_31 : decode cX8_init 31 = .ok (.bipush 80, 2) := by decide +kernel
theorem dX8_init_33 : decode cX8_init 33 = .ok (.newarray .int, 2) := by decide +kernel
theorem dX8_init_35 : decode cX8_init 35 = .ok (.putfield 23, 3) := by decide +kernel
theorem dX8_init_38 : decode cX8_init 38 = .ok (.aload_n 0, 1) := by decide +kernel
theorem dX8_init_39 : decode cX8_init 39 = .ok (.bipush 80, 2) := by decide +kernel
theorem dX8_init_41 : decode cX8_init 41 = .ok (.newarray .int, 2) := by decide +kernel
theorem dX8_init_43 : decode cX8_init 43 = .ok (.putfield 26, 3) := by decide +kernel
theorem dX8_init_46 : decode cX8_init 46 = .ok (.aload_n 0, 1) := by decide +kernel
theorem dX8_init_47 : decode cX8_init 47 = .ok (.bipush 80, 2) := by decide +kernel
theorem dX8_init_49 : decode cX8_init 49 = .ok (.newarray .int, 2) := by decide +kernel
theorem dX8_init_51 : decode cX8_init 51 = .ok (.putfield 29, 3) := by decide +kernel
theorem dX8_init_54 : decode cX8_init 54 = .ok (.aload_n 0, 1) := by decide +kernel
theorem dX8_init_55 : decode cX8_init 55 = .ok (.bipush 80, 2) := by decide +kernel
theorem dX8_init_57 : decode cX8_init 57 = .ok (.newarray .int, 2) := by decide +kernel
theorem dX8_init_59 : decode cX8_init 59 = .ok (.putfield 32, 3) := by decide +kernel
theorem dX8_init_62 : decode cX8_init 62 = .ok (.aload_n 0, 1) := by decide +kernel
theorem dX8_init_63 : decode cX8_init 63 = .ok (.bipush 80, 2) := by decide +kernel
theorem dX8_init_65 : decode cX8_init 65 = .ok (.newarray .boolean, 2) := by decide +kernel
theorem dX8_init_67 : decode cX8_init 67 = .ok (.putfield 35, 3) := by decide +kernel
theorem dX8_init_70 : decode cX8_init 70 = .ok (.aload_n 0, 1) := by decide +kernel
theorem dX8_init_71 : decode cX8_init 71 = .ok (.bipush 80, 2) := by decide +kernel
theorem dX8_init_73 : decode cX8_init 73 = .ok (.newarray .boolean, 2) := by decide +kernel
theorem dX8_init_75 : decode cX8_init 75 = .ok (.putfield 39, 3) := by decide +kernel
theorem dX8_init_78 : decode cX8_init 78 = .ok (.aload_n 0, 1) := by decide +kernel
theorem dX8_init_79 : decode cX8_init 79 = .ok (.bipush 6, 2) := by decide +kernel
theorem dX8_init_81 : decode cX8_init 81 = .ok (.newarray .int, 2) := by decide +kernel
theorem dX8_init_83 : decode cX8_init 83 = .ok (.putfield 42, 3) := by decide +kernel
theorem dX8_init_86 : decode cX8_init 86 = .ok (.aload_n 0, 1) := by decide +kernel
theorem dX8_init_87 : decode cX8_init 87 = .ok (.bipush 6, 2) := by decide +kernel
theorem dX8_init_89 : decode cX8_init 89 = .ok (.newarray .int, 2) := by decide +kernel
theorem dX8_init_91 : decode cX8_init 91 = .ok (.putfield 45, 3) := by decide +kernel
theorem dX8_init_94 : decode cX8_init 94 = .ok (.aload_n 0, 1) := by decide +kernel
theorem dX8_init_95 : decode cX8_init 95 = .ok (.bipush 6, 2) := by decide +kernel
theorem dX8_init_97 : decode cX8_init 97 = .ok (.newarray .int, 2) := by decide +kernel
theorem dX8_init_99 : decode cX8_init 99 = .ok (.putfield 48, 3) := by decide +kernel
theorem dX8_init_102 : decode cX8_init 102 = .ok (.aload_n 0, 1) := by decide +kernel
theorem dX8_init_103 : decode cX8_init 103 = .ok (.sipush 1280, 3) := by decide +kernel
theorem dX8_init_106 : decode cX8_init 106 = .ok (.newarray .int, 2) := by decide +kernel
theorem dX8_init_108 : decode cX8_init 108 = .ok (.putfield 51, 3) := by decide +kernel
theorem dX8_init_111 : decode cX8_init 111 = .ok (.aload_n 0, 1) := by decide +kernel
theorem dX8_init_112 : decode cX8_init 112 = .ok (.bipush 20, 2) := by decide +kernel
theorem dX8_init_114 : decode cX8_init 114 = .ok (.newarray .int, 2) := by decide +kernel
theorem dX8_init_116 : decode cX8_init 116 = .ok (.putfield 54, 3) := by decide +kernel
theorem dX8_init_119 : decode cX8_init 119 = .ok (.aload_n 0, 1) := by decide +kernel
theorem dX8_init_120 : decode cX8_init 120 = .ok (.bipush 40, 2) := by decide +kernel
theorem dX8_init_122 : decode cX8_init 122 = .ok (.newarray .int, 2) := by decide +kernel
theorem dX8_init_124 : decode cX8_init 124 = .ok (.putfield 57, 3) := by decide +kernel
theorem dX8_init_127 : decode cX8_init 127 = .ok (.aload_n 0, 1) := by decide +kernel
theorem dX8_init_128 : decode cX8_init 128 = .ok (.bipush 40, 2) := by decide +kernel
theorem dX8_init_130 : decode cX8_init 130 = .ok (.newarray .int, 2) := by decide +kernel
theorem dX8_init_132 : decode cX8_init 132 = .ok (.putfield 60, 3) := by decide +kernel
theorem dX8_init_135 : decode cX8_init 135 = .ok (.aload_n 0, 1) := by decide +kernel
theorem dX8_init_136 : decode cX8_init 136 = .ok (.bipush 40, 2) := by decide +kernel
theorem dX8_init_138 : decode cX8_init 138 = .ok (.newarray .int, 2) := by decide +kernel
theorem dX8_init_140 : decode cX8_init 140 = .ok (.putfield 63, 3) := by decide +kernel
theorem dX8_init_143 : decode cX8_init 143 = .ok (.aload_n 0, 1) := by decide +kernel
theorem dX8_init_144 : decode cX8_init 144 = .ok (.bipush 40, 2) := by decide +kernel
theorem dX8_init_146 : decode cX8_init 146 = .ok (.newarray .int, 2) := by decide +kernel
theorem dX8_init_148 : decode cX8_init 148 = .ok (.putfield 66, 3) := by decide +kernel
theorem dX8_init_151 : decode cX8_init 151 = .ok (.return_, 1) := by decide +kernel
theorem dX8_thrown_0 : decode cX8_thrown 0 = .ok (.aload_n 0, 1) := by decide +kernel
theorem dX8_thrown_1 : decode cX8_thrown 1 = .ok (.getfield 69, 3) := by decide +kernel
theorem dX8_thrown_4 : decode cX8_thrown 4 = .ok (.ireturn, 1) := by decide +kernel
theorem dX8_isIn_0 : decode cX8_isIn 0 = .ok (.iload_n 0, 1) := by decide +kernel
theorem dX8_isIn_1 : decode cX8_isIn 1 = .ok (.iload_n 1, 1) := by decide +kernel
theorem dX8_isIn_2 : decode cX8_isIn 2 = .ok (.if_icmp .lt 12, 3) := by decide +kernel
theorem dX8_isIn_5 : decode cX8_isIn 5 = .ok (.iload_n 0, 1) := by decide +kernel
theorem dX8_isIn_6 : decode cX8_isIn 6 = .ok (.iload_n 2, 1) := by decide +kernel
theorem dX8_isIn_7 : decode cX8_isIn 7 = .ok (.if_icmp .gt 7, 3) := by decide +kernel
theorem dX8_isIn_10 : decode cX8_isIn 10 = .ok (.iconst 1, 1) := by decide +kernel
theorem dX8_isIn_11 : decode cX8_isIn 11 = .ok (.goto 4, 3) := by decide +kernel
theorem dX8_isIn_14 : decode cX8_isIn 14 = .ok (.iconst 0, 1) := by decide +kernel
theorem dX8_isIn_15 : decode cX8_isIn 15 = .ok (.ireturn, 1) := by decide +kernel
theorem dX8_isLane_0 : decode cX8_isLane 0 = .ok (.iload_n 0, 1) := by decide +kernel
theorem dX8_isLane_1 : decode cX8_isLane 1 = .ok (.iconst 0, 1) := by decide +kernel
theorem dX8_isLane_2 : decode cX8_isLane 2 = .ok (.bipush 63, 2) := by decide +kernel
theorem dX8_isLane_4 : decode cX8_isLane 4 = .ok (.invokestatic 72, 3) := by decide +kernel
theorem dX8_isLane_7 : decode cX8_isLane 7 = .ok (.ireturn, 1) := by decide +kernel
theorem dX8_grain_0 : decode cX8_grain 0 = .ok (.iload_n 1, 1) := by decide +kernel
theorem dX8_grain_1 : decode cX8_grain 1 = .ok (.invokestatic 76, 3) := by decide +kernel
theorem dX8_grain_4 : decode cX8_grain 4 = .ok (.ifCond .eq 39, 3) := by decide +kernel
theorem dX8_grain_7 : decode cX8_grain 7 = .ok (.iload_n 2, 1) := by decide +kernel
theorem dX8_grain_8 : decode cX8_grain 8 = .ok (.iconst 0, 1) := by decide +kernel
theorem dX8_grain_9 : decode cX8_grain 9 = .ok (.ldc 80, 2) := by decide +kernel
theorem dX8_grain_11 : decode cX8_grain 11 = .ok (.invokestatic 72, 3) := by decide +kernel
theorem dX8_grain_14 : decode cX8_grain 14 = .ok (.ifCond .eq 29, 3) := by decide +kernel
theorem dX8_grain_17 : decode cX8_grain 17 = .ok (.iload_n 3, 1) := by decide +kernel
theorem dX8_grain_18 : decode cX8_grain 18 = .ok (.iconst 1, 1) := by decide +kernel
theorem dX8_grain_19 : decode cX8_grain 19 = .ok (.sipush 10000, 3) := by decide +kernel
theorem dX8_grain_22 : decode cX8_grain 22 = .ok (.invokestatic 72, 3) := by decide +kernel
theorem dX8_grain_25 : decode cX8_grain 25 = .ok (.ifCond .eq 18, 3) := by decide +kernel
theorem dX8_grain_28 : decode cX8_grain 28 = .ok (.iload 4, 2) := by decide +kernel
theorem dX8_grain_30 : decode cX8_grain 30 = .ok (.iconst 0, 1) := by decide +kernel
theorem dX8_grain_31 : decode cX8_grain 31 = .ok (.bipush 99, 2) := by decide +kernel
theorem dX8_grain_33 : decode cX8_grain 33 = .ok (.invokestatic 72, 3) := by decide +kernel
theorem dX8_grain_36 : decode cX8_grain 36 = .ok (.ifCond .eq 7, 3) := by decide +kernel
theorem dX8_grain_39 : decode cX8_grain 39 = .ok (.iconst 1, 1) := by decide +kernel
theorem dX8_grain_40 : decode cX8_grain 40 = .ok (.goto 4, 3) := by decide +kernel
theorem dX8_grain_43 : decode cX8_grain 43 = .ok (.iconst 0, 1) := by decide +kernel
theorem dX8_grain_44 : decode cX8_grain 44 = .ok (.istore 5, 2) := by decide +kernel
theorem dX8_grain_46 : decode cX8_grain 46 = .ok (.aload_n 0, 1) := by decide +kernel
theorem dX8_grain_47 : decode cX8_grain 47 = .ok (.iload 5, 2) := by decide +kernel
theorem dX8_grain_49 : decode cX8_grain 49 = .ok (.ifCond .ne 7, 3) := by decide +kernel
theorem dX8_grain_52 : decode cX8_grain 52 = .ok (.iconst 1, 1) := by decide +kernel
theorem dX8_grain_53 : decode cX8_grain 53 = .ok (.goto 17, 3) := by decide +kernel
theorem dX8_grain_56 : decode cX8_grain 56 = .ok (.aload_n 0, 1) := by decide +kernel
theorem dX8_grain_57 : decode cX8_grain 57 = .ok (.getfield 81, 3) := by decide +kernel
theorem dX8_grain_60 : decode cX8_grain 60 = .ok (.bipush 80, 2) := by decide +kernel
theorem dX8_grain_62 : decode cX8_grain 62 = .ok (.if_icmp .ne 7, 3) := by decide +kernel
theorem dX8_grain_65 : decode cX8_grain 65 = .ok (.iconst 2, 1) := by decide +kernel
theorem dX8_grain_66 : decode cX8_grain 66 = .ok (.goto 4, 3) := by decide +kernel
theorem dX8_grain_69 : decode cX8_grain 69 = .ok (.iconst 0, 1) := by decide +kernel
theorem dX8_grain_70 : decode cX8_grain 70 = .ok (.putfield 69, 3) := by decide +kernel
theorem dX8_grain_73 : decode cX8_grain 73 = .ok (.aload_n 0, 1) := by decide +kernel
theorem dX8_grain_74 : decode cX8_grain 74 = .ok (.getfield 69, 3) := by decide +kernel
theorem dX8_grain_77 : decode cX8_grain 77 = .ok (.ifCond .le 5, 3) := by decide +kernel
theorem dX8_grain_80 : decode cX8_grain 80 = .ok (.iconst 0, 1) := by decide +kernel
theorem dX8_grain_81 : decode cX8_grain 81 = .ok (.ireturn, 1) := by decide +kernel
theorem dX8_grain_82 : decode cX8_grain 82 = .ok (.aload_n 0, 1) := by decide +kernel
theorem dX8_grain_83 : decode cX8_grain 83 = .ok (.dup, 1) := by decide +kernel
theorem dX8_grain_84 : decode cX8_grain 84 = .ok (.getfield 84, 3) := by decide +kernel
theorem dX8_grain_87 : decode cX8_grain 87 = .ok (.iload_n 3, 1) := by decide +kernel
theorem dX8_grain_88 : decode cX8_grain 88 = .ok (.iadd, 1) := by decide +kernel
theorem dX8_grain_89 : decode cX8_grain 89 = .ok (.putfield 84, 3) := by decide +kernel
theorem dX8_grain_92 : decode cX8_grain 92 = .ok (.aload_n 0, 1) := by decide +kernel
theorem dX8_grain_93 : decode cX8_grain 93 = .ok (.dup, 1) := by decide +kernel
theorem dX8_grain_94 : decode cX8_grain 94 = .ok (.getfield 87, 3) := by decide +kernel
theorem dX8_grain_97 : decode cX8_grain 97 = .ok (.iload_n 3, 1) := by decide +kernel
theorem dX8_grain_98 : decode cX8_grain 98 = .ok (.i2l, 1) := by decide +kernel
theorem dX8_grain_99 : decode cX8_grain 99 = .ok (.iload_n 1, 1) := by decide +kernel
theorem dX8_grain_100 : decode cX8_grain 100 = .ok (.bipush 20, 2) := by decide +kernel
theorem dX8_grain_102 : decode cX8_grain 102 = .ok (.iadd, 1) := by decide +kernel
theorem dX8_grain_103 : decode cX8_grain 103 = .ok (.i2l, 1) := by decide +kernel
theorem dX8_grain_104 : decode cX8_grain 104 = .ok (.lmul, 1) := by decide +kernel
theorem dX8_grain_105 : decode cX8_grain 105 = .ok (.ladd, 1) := by decide +kernel
theorem dX8_grain_106 : decode cX8_grain 106 = .ok (.putfield 87, 3) := by decide +kernel
theorem dX8_grain_109 : decode cX8_grain 109 = .ok (.aload_n 0, 1) := by decide +kernel
theorem dX8_grain_110 : decode cX8_grain 110 = .ok (.iload_n 1, 1) := by decide +kernel
theorem dX8_grain_111 : decode cX8_grain 111 = .ok (.iload_n 2, 1) := by decide +kernel
theorem dX8_grain_112 : decode cX8_grain 112 = .ok (.iload_n 3, 1) := by decide +kernel
theorem dX8_grain_113 : decode cX8_grain 113 = .ok (.iload 4, 2) := by decide +kernel
theorem dX8_grain_115 : decode cX8_grain 115 = .ok (.iconst 0, 1) := by decide +kernel
theorem dX8_grain_116 : decode cX8_grain 116 = .ok (.invokevirtual 91, 3) := by decide +kernel
theorem dX8_grain_119 : decode cX8_grain 119 = .ok (.ireturn, 1) := by decide +kernel
theorem dX8_adds_0 : decode cX8_adds 0 = .ok (.aload_n 0, 1) := by decide +kernel
theorem dX8_adds_1 : decode cX8_adds 1 = .ok (.getfield 19, 3) := by decide +kernel
theorem dX8_adds_4 : decode cX8_adds 4 = .ok (.aload_n 0, 1) := by decide +kernel
theorem dX8_adds_5 : decode cX8_adds 5 = .ok (.getfield 81, 3) := by decide +kernel
theorem dX8_adds_8 : decode cX8_adds 8 = .ok (.iload_n 1, 1) := by decide +kernel
theorem dX8_adds_9 : decode cX8_adds 9 = .ok (.iastore, 1) := by decide +kernel
theorem dX8_adds_10 : decode cX8_adds 10 = .ok (.aload_n 0, 1) := by decide +kernel
theorem dX8_adds_11 : decode cX8_adds 11 = .ok (.getfield 23, 3) := by decide +kernel
theorem dX8_adds_14 : decode cX8_adds 14 = .ok (.aload_n 0, 1) := by decide +kernel
theorem dX8_adds_15 : decode cX8_adds 15 = .ok (.getfield 81, 3) := by decide +kernel
theorem dX8_adds_18 : decode cX8_adds 18 = .ok (.iload_n 2, 1) := by decide +kernel
theorem dX8_adds_19 : decode cX8_adds 19 = .ok (.iastore, 1) := by decide +kernel
theorem dX8_adds_20 : decode cX8_adds 20 = .ok (.aload_n 0, 1) := by decide +kernel
theorem dX8_adds_21 : decode cX8_adds 21 = .ok (.getfield 26, 3) := by decide +kernel
theorem dX8_adds_24 : decode cX8_adds 24 = .ok (.aload_n 0, 1) := by decide +kernel
theorem dX8_adds_25 : decode cX8_adds 25 = .ok (.getfield 81, 3) := by decide +kernel
theorem dX8_adds_28 : decode cX8_adds 28 = .ok (.iload_n 3, 1) := by decide +kernel
theorem dX8_adds_29 : decode cX8_adds 29 = .ok (.iastore, 1) := by decide +kernel
theorem dX8_adds_30 : decode cX8_adds 30 = .ok (.aload_n 0, 1) := by decide +kernel
theorem dX8_adds_31 : decode cX8_adds 31 = .ok (.getfield 29, 3) := by decide +kernel
theorem dX8_adds_34 : decode cX8_adds 34 = .ok (.aload_n 0, 1) := by decide +kernel
theorem dX8_adds_35 : decode cX8_adds 35 = .ok (.getfield 81, 3) := by decide +kernel
theorem dX8_adds_38 : decode cX8_adds 38 = .ok (.iload 4, 2) := by decide +kernel
theorem dX8_adds_40 : decode cX8_adds 40 = .ok (.iastore, 1) := by decide +kernel
theorem dX8_adds_41 : decode cX8_adds 41 = .ok (.aload_n 0, 1) := by decide +kernel
theorem dX8_adds_42 : decode cX8_adds 42 = .ok (.getfield 32, 3) := by decide +kernel
theorem dX8_adds_45 : decode cX8_adds 45 = .ok (.aload_n 0, 1) := by decide +kernel
theorem dX8_adds_46 : decode cX8_adds 46 = .ok (.getfield 81, 3) := by decide +kernel
theorem dX8_adds_49 : decode cX8_adds 49 = .ok (.iload 5, 2) := by decide +kernel
theorem dX8_adds_51 : decode cX8_adds 51 = .ok (.iastore, 1) := by decide +kernel
theorem dX8_adds_52 : decode cX8_adds 52 = .ok (.aload_n 0, 1) := by decide +kernel
theorem dX8_adds_53 : decode cX8_adds 53 = .ok (.getfield 35, 3) := by decide +kernel
theorem dX8_adds_56 : decode cX8_adds 56 = .ok (.aload_n 0, 1) := by decide +kernel
theorem dX8_adds_57 : decode cX8_adds 57 = .ok (.getfield 81, 3) := by decide +kernel
theorem dX8_adds_60 : decode cX8_adds 60 = .ok (.iconst 1, 1) := by decide +kernel
theorem dX8_adds_61 : decode cX8_adds 61 = .ok (.bastore, 1) := by decide +kernel
theorem dX8_adds_62 : decode cX8_adds 62 = .ok (.aload_n 0, 1) := by decide +kernel
theorem dX8_adds_63 : decode cX8_adds 63 = .ok (.dup, 1) := by decide +kernel
theorem dX8_adds_64 : decode cX8_adds 64 = .ok (.getfield 81, 3) := by decide +kernel
theorem dX8_adds_67 : decode cX8_adds 67 = .ok (.iconst 1, 1) := by decide +kernel
theorem dX8_adds_68 : decode cX8_adds 68 = .ok (.iadd, 1) := by decide +kernel
theorem dX8_adds_69 : decode cX8_adds 69 = .ok (.putfield 81, 3) := by decide +kernel
theorem dX8_adds_72 : decode cX8_adds 72 = .ok (.aload_n 0, 1) := by decide +kernel
theorem dX8_adds_73 : decode cX8_adds 73 = .ok (.getfield 81, 3) := by decide +kernel
theorem dX8_adds_76 : decode cX8_adds 76 = .ok (.iconst 1, 1) := by decide +kernel
theorem dX8_adds_77 : decode cX8_adds 77 = .ok (.isub, 1) := by decide +kernel
theorem dX8_adds_78 : decode cX8_adds 78 = .ok (.ireturn, 1) := by decide +kernel
theorem dX8_moon_0 : decode cX8_moon 0 = .ok (.iload_n 1, 1) := by decide +kernel
theorem dX8_moon_1 : decode cX8_moon 1 = .ok (.invokestatic 76, 3) := by decide +kernel
theorem dX8_moon_4 : decode cX8_moon 4 = .ok (.ifCond .eq 28, 3) := by decide +kernel
theorem dX8_moon_7 : decode cX8_moon 7 = .ok (.iload_n 2, 1) := by decide +kernel
theorem dX8_moon_8 : decode cX8_moon 8 = .ok (.iconst 0, 1) := by decide +kernel
theorem dX8_moon_9 : decode cX8_moon 9 = .ok (.ldc 80, 2) := by decide +kernel
theorem dX8_moon_11 : decode cX8_moon 11 = .ok (.invokestatic 72, 3) := by decide +kernel
theorem dX8_moon_14 : decode cX8_moon 14 = .ok (.ifCond .eq 18, 3) := by decide +kernel
theorem dX8_moon_17 : decode cX8_moon 17 = .ok (.iload_n 3, 1) := by decide +kernel
theorem dX8_moon_18 : decode cX8_moon 18 = .ok (.iconst 1, 1) := by decide +kernel
theorem dX8_moon_19 : decode cX8_moon 19 = .ok (.sipush 10000, 3) := by decide +kernel
theorem dX8_moon_22 : decode cX8_moon 22 = .ok (.invokestatic 72, 3) := by decide +kernel
theorem dX8_moon_25 : decode cX8_moon 25 = .ok (.ifCond .eq 7, 3) := by decide +kernel
theorem dX8_moon_28 : decode cX8_moon 28 = .ok (.iconst 1, 1) := by decide +kernel
theorem dX8_moon_29 : decode cX8_moon 29 = .ok (.goto 4, 3) := by decide +kernel
theorem dX8_moon_32 : decode cX8_moon 32 = .ok (.iconst 0, 1) := by decide +kernel
theorem dX8_moon_33 : decode cX8_moon 33 = .ok (.istore 4, 2) := by decide +kernel
theorem dX8_moon_35 : decode cX8_moon 35 = .ok (.aload_n 0, 1) := by decide +kernel
theorem dX8_moon_36 : decode cX8_moon 36 = .ok (.iload 4, 2) := by decide +kernel
theorem dX8_moon_38 : decode cX8_moon 38 = .ok (.ifCond .ne 7, 3) := by decide +kernel
theorem dX8_moon_41 : decode cX8_moon 41 = .ok (.iconst 1, 1) := by decide +kernel
theorem dX8_moon_42 : decode cX8_moon 42 = .ok (.goto 17, 3) := by decide +kernel
theorem dX8_moon_45 : decode cX8_moon 45 = .ok (.aload_n 0, 1) := by decide +kernel
theorem dX8_moon_46 : decode cX8_moon 46 = .ok (.getfield 95, 3) := by decide +kernel
theorem dX8_moon_49 : decode cX8_moon 49 = .ok (.bipush 6, 2) := by decide +kernel
theorem dX8_moon_51 : decode cX8_moon 51 = .ok (.if_icmp .ne 7, 3) := by decide +kernel
theorem dX8_moon_54 : decode cX8_moon 54 = .ok (.iconst 2, 1) := by decide +kernel
theorem dX8_moon_55 : decode cX8_moon 55 = .ok (.goto 4, 3) := by decide +kernel
theorem dX8_moon_58 : decode cX8_moon 58 = .ok (.iconst 0, 1) := by decide +kernel
theorem dX8_moon_59 : decode cX8_moon 59 = .ok (.putfield 69, 3) := by decide +kernel
theorem dX8_moon_62 : decode cX8_moon 62 = .ok (.aload_n 0, 1) := by decide +kernel
theorem dX8_moon_63 : decode cX8_moon 63 = .ok (.getfield 69, 3) := by decide +kernel
theorem dX8_moon_66 : decode cX8_moon 66 = .ok (.ifCond .le 5, 3) := by decide +kernel
theorem dX8_moon_69 : decode cX8_moon 69 = .ok (.iconst 0, 1) := by decide +kernel
theorem dX8_moon_70 : decode cX8_moon 70 = .ok (.ireturn, 1) := by decide +kernel
theorem dX8_moon_71 : decode cX8_moon 71 = .ok (.aload_n 0, 1) := by decide +kernel
theorem dX8_moon_72 : decode cX8_moon 72 = .ok (.getfield 42, 3) := by decide +kernel
theorem dX8_moon_75 : decode cX8_moon 75 = .ok (.aload_n 0, 1) := by decide +kernel
theorem dX8_moon_76 : decode cX8_moon 76 = .ok (.getfield 95, 3) := by decide +kernel
theorem dX8_moon_79 : decode cX8_moon 79 = .ok (.iload_n 1, 1) := by decide +kernel
theorem dX8_moon_80 : decode cX8_moon 80 = .ok (.iastore, 1) := by decide +kernel
theorem dX8_moon_81 : decode cX8_moon 81 = .ok (.aload_n 0, 1) := by decide +kernel
theorem dX8_moon_82 : decode cX8_moon 82 = .ok (.getfield 45, 3) := by decide +kernel
theorem dX8_moon_85 : decode cX8_moon 85 = .ok (.aload_n 0, 1) := by decide +kernel
theorem dX8_moon_86 : decode cX8_moon 86 = .ok (.getfield 95, 3) := by decide +kernel
theorem dX8_moon_89 : decode cX8_moon 89 = .ok (.iload_n 2, 1) := by decide +kernel
theorem dX8_moon_90 : decode cX8_moon 90 = .ok (.iastore, 1) := by decide +kernel
theorem dX8_moon_91 : decode cX8_moon 91 = .ok (.aload_n 0, 1) := by decide +kernel
theorem dX8_moon_92 : decode cX8_moon 92 = .ok (.getfield 48, 3) := by decide +kernel
theorem dX8_moon_95 : decode cX8_moon 95 = .ok (.aload_n 0, 1) := by decide +kernel
theorem dX8_moon_96 : decode cX8_moon 96 = .ok (.getfield 95, 3) := by decide +kernel
theorem dX8_moon_99 : decode cX8_moon 99 = .ok (.iload_n 3, 1) := by decide +kernel
theorem dX8_moon_100 : decode cX8_moon 100 = .ok (.iastore, 1) := by decide +kernel
theorem dX8_moon_101 : decode cX8_moon 101 = .ok (.aload_n 0, 1) := by decide +kernel
theorem dX8_moon_102 : decode cX8_moon 102 = .ok (.dup, 1) := by decide +kernel
theorem dX8_moon_103 : decode cX8_moon 103 = .ok (.getfield 95, 3) := by decide +kernel
theorem dX8_moon_106 : decode cX8_moon 106 = .ok (.iconst 1, 1) := by decide +kernel
theorem dX8_moon_107 : decode cX8_moon 107 = .ok (.iadd, 1) := by decide +kernel
theorem dX8_moon_108 : decode cX8_moon 108 = .ok (.putfield 95, 3) := by decide +kernel
theorem dX8_moon_111 : decode cX8_moon 111 = .ok (.aload_n 0, 1) := by decide +kernel
theorem dX8_moon_112 : decode cX8_moon 112 = .ok (.getfield 95, 3) := by decide +kernel
theorem dX8_moon_115 : decode cX8_moon 115 = .ok (.iconst 1, 1) := by decide +kernel
theorem dX8_moon_116 : decode cX8_moon 116 = .ok (.isub, 1) := by decide +kernel
theorem dX8_moon_117 : decode cX8_moon 117 = .ok (.ireturn, 1) := by decide +kernel
theorem dX8_flatness_0 : decode cX8_flatness 0 = .ok (.aload_n 0, 1) := by decide +kernel
theorem dX8_flatness_1 : decode cX8_flatness 1 = .ok (.iload_n 1, 1) := by decide +kernel
theorem dX8_flatness_2 : decode cX8_flatness 2 = .ok (.iconst 0, 1) := by decide +kernel
theorem dX8_flatness_3 : decode cX8_flatness 3 = .ok (.sipush 1000, 3) := by decide +kernel
theorem dX8_flatness_6 : decode cX8_flatness 6 = .ok (.invokestatic 72, 3) := by decide +kernel
theorem dX8_flatness_9 : decode cX8_flatness 9 = .ok (.ifCond .eq 7, 3) := by decide +kernel
theorem dX8_flatness_12 : decode cX8_flatness 12 = .ok (.iconst 0, 1) := by decide +kernel
theorem dX8_flatness_13 : decode cX8_flatness 13 = .ok (.goto 4, 3) := by decide +kernel
theorem dX8_flatness_16 : decode cX8_flatness 16 = .ok (.iconst 1, 1) := by decide +kernel
theorem dX8_flatness_17 : decode cX8_flatness 17 = .ok (.putfield 69, 3) := by decide +kernel
theorem dX8_flatness_20 : decode cX8_flatness 20 = .ok (.aload_n 0, 1) := by decide +kernel
theorem dX8_flatness_21 : decode cX8_flatness 21 = .ok (.getfield 69, 3) := by decide +kernel
theorem dX8_flatness_24 : decode cX8_flatness 24 = .ok (.ifCond .le 5, 3) := by decide +kernel
theorem dX8_flatness_27 : decode cX8_flatness 27 = .ok (.iconst 0, 1) := by decide +kernel
theorem dX8_flatness_28 : decode cX8_flatness 28 = .ok (.ireturn, 1) := by decide +kernel
theorem dX8_flatness_29 : decode cX8_flatness 29 = .ok (.aload_n 0, 1) := by decide +kernel
theorem dX8_flatness_30 : decode cX8_flatness 30 = .ok (.getfield 98, 3) := by decide +kernel
theorem dX8_flatness_33 : decode cX8_flatness 33 = .ok (.istore_n 2, 1) := by decide +kernel
theorem dX8_flatness_34 : decode cX8_flatness 34 = .ok (.aload_n 0, 1) := by decide +kernel
theorem dX8_flatness_35 : decode cX8_flatness 35 = .ok (.iload_n 1, 1) := by decide +kernel
theorem dX8_flatness_36 : decode cX8_flatness 36 = .ok (.putfield 98, 3) := by decide +kernel
theorem dX8_flatness_39 : decode cX8_flatness 39 = .ok (.iload_n 2, 1) := by decide +kernel
theorem dX8_flatness_40 : decode cX8_flatness 40 = .ok (.ireturn, 1) := by decide +kernel
theorem dX8_bounds_0 : decode cX8_bounds 0 = .ok (.aload_n 0, 1) := by decide +kernel
theorem dX8_bounds_1 : decode cX8_bounds 1 = .ok (.iload_n 1, 1) := by decide +kernel
theorem dX8_bounds_2 : decode cX8_bounds 2 = .ok (.iconst 0, 1) := by decide +kernel
theorem dX8_bounds_3 : decode cX8_bounds 3 = .ok (.sipush 1000, 3) := by decide +kernel
theorem dX8_bounds_6 : decode cX8_bounds 6 = .ok (.invokestatic 72, 3) := by decide +kernel
theorem dX8_bounds_9 : decode cX8_bounds 9 = .ok (.ifCond .eq 28, 3) := by decide +kernel
theorem dX8_bounds_12 : decode cX8_bounds 12 = .ok (.iload_n 2, 1) := by decide +kernel
theorem dX8_bounds_13 : decode cX8_bounds 13 = .ok (.iload_n 1, 1) := by decide +kernel
theorem dX8_bounds_14 : decode cX8_bounds 14 = .ok (.sipush 5000, 3) := by decide +kernel
theorem dX8_bounds_17 : decode cX8_bounds 17 = .ok (.invokestatic 72, 3) := by decide +kernel
theorem dX8_bounds_20 : decode cX8_bounds 20 = .ok (.ifCond .eq 17, 3) := by decide +kernel
theorem dX8_bounds_23 : decode cX8_bounds 23 = .ok (.iload_n 3, 1) := by decide +kernel
theorem dX8_bounds_24 : decode cX8_bounds 24 = .ok (.iconst 0, 1) := by decide +kernel
theorem dX8_bounds_25 : decode cX8_bounds 25 = .ok (.bipush 100, 2) := by decide +kernel
theorem dX8_bounds_27 : decode cX8_bounds 27 = .ok (.invokestatic 72, 3) := by decide +kernel
theorem dX8_bounds_30 : decode cX8_bounds 30 = .ok (.ifCond .eq 7, 3) := by decide +kernel
theorem dX8_bounds_33 : decode cX8_bounds 33 = .ok (.iconst 0, 1) := by decide +kernel
theorem dX8_bounds_34 : decode cX8_bounds 34 = .ok (.goto 4, 3) := by decide +kernel
theorem dX8_bounds_37 : decode cX8_bounds 37 = .ok (.iconst 1, 1) := by decide +kernel
theorem dX8_bounds_38 : decode cX8_bounds 38 = .ok (.putfield 69, 3) := by decide +kernel
theorem dX8_bounds_41 : decode cX8_bounds 41 = .ok (.aload_n 0, 1) := by decide +kernel
theorem dX8_bounds_42 : decode cX8_bounds 42 = .ok (.getfield 69, 3) := by decide +kernel
theorem dX8_bounds_45 : decode cX8_bounds 45 = .ok (.ifCond .ne 18, 3) := by decide +kernel
theorem dX8_bounds_48 : decode cX8_bounds 48 = .ok (.aload_n 0, 1) := by decide +kernel
theorem dX8_bounds_49 : decode cX8_bounds 49 = .ok (.iload_n 1, 1) := by decide +kernel
theorem dX8_bounds_50 : decode cX8_bounds 50 = .ok (.putfield 7, 3) := by decide +kernel
theorem dX8_bounds_53 : decode cX8_bounds 53 = .ok (.aload_n 0, 1) := by decide +kernel
theorem dX8_bounds_54 : decode cX8_bounds 54 = .ok (.iload_n 2, 1) := by decide +kernel
theorem dX8_bounds_55 : decode cX8_bounds 55 = .ok (.putfield 13, 3) := by decide +kernel
theorem dX8_bounds_58 : decode cX8_bounds 58 = .ok (.aload_n 0, 1) := by decide +kernel
theorem dX8_bounds_59 : decode cX8_bounds 59 = .ok (.iload_n 3, 1) := by decide +kernel
theorem dX8_bounds_60 : decode cX8_bounds 60 = .ok (.putfield 16, 3) := by decide +kernel
theorem dX8_bounds_63 : decode cX8_bounds 63 = .ok (.return_, 1) := by decide +kernel
theorem dX8_speedOf_0 : decode cX8_speedOf 0 = .ok (.iload_n 1, 1) := by decide +kernel
theorem dX8_speedOf_1 : decode cX8_speedOf 1 = .ok (.bipush 20, 2) := by decide +kernel
theorem dX8_speedOf_3 : decode cX8_speedOf 3 = .ok (.iadd, 1) := by decide +kernel
theorem dX8_speedOf_4 : decode cX8_speedOf 4 = .ok (.istore_n 2, 1) := by decide +kernel
theorem dX8_speedOf_5 : decode cX8_speedOf 5 = .ok (.ldc 101, 2) := by decide +kernel
theorem dX8_speedOf_7 : decode cX8_speedOf 7 = .ok (.iload_n 2, 1) := by decide +kernel
theorem dX8_speedOf_8 : decode cX8_speedOf 8 = .ok (.idiv, 1) := by decide +kernel
theorem dX8_speedOf_9 : decode cX8_speedOf 9 = .ok (.bipush 100, 2) := by decide +kernel
theorem dX8_speedOf_11 : decode cX8_speedOf 11 = .ok (.aload_n 0, 1) := by decide +kernel
theorem dX8_speedOf_12 : decode cX8_speedOf 12 = .ok (.getfield 98, 3) := by decide +kernel
theorem dX8_speedOf_15 : decode cX8_speedOf 15 = .ok (.imul, 1) := by decide +kernel
theorem dX8_speedOf_16 : decode cX8_speedOf 16 = .ok (.iload_n 2, 1) := by decide +kernel
theorem dX8_speedOf_17 : decode cX8_speedOf 17 = .ok (.iload_n 2, 1) := by decide +kernel
theorem dX8_speedOf_18 : decode cX8_speedOf 18 = .ok (.imul, 1) := by decide +kernel
theorem dX8_speedOf_19 : decode cX8_speedOf 19 = .ok (.idiv, 1) := by decide +kernel
theorem dX8_speedOf_20 : decode cX8_speedOf 20 = .ok (.iadd, 1) := by decide +kernel
theorem dX8_speedOf_21 : decode cX8_speedOf 21 = .ok (.ireturn, 1) := by decide +kernel
theorem dX8_size_0 : decode cX8_size 0 = .ok (.iload_n 0, 1) := by decide +kernel
theorem dX8_size_1 : decode cX8_size 1 = .ok (.ifCond .ge 8, 3) := by decide +kernel
theorem dX8_size_4 : decode cX8_size 4 = .ok (.iload_n 0, 1) := by decide +kernel
theorem dX8_size_5 : decode cX8_size 5 = .ok (.ineg, 1) := by decide +kernel
theorem dX8_size_6 : decode cX8_size 6 = .ok (.goto 4, 3) := by decide +kernel
theorem dX8_size_9 : decode cX8_size 9 = .ok (.iload_n 0, 1) := by decide +kernel
theorem dX8_size_10 : decode cX8_size 10 = .ok (.ireturn, 1) := by decide +kernel
theorem dX8_apart_0 : decode cX8_apart 0 = .ok (.iload_n 0, 1) := by decide +kernel
theorem dX8_apart_1 : decode cX8_apart 1 = .ok (.iload_n 1, 1) := by decide +kernel
theorem dX8_apart_2 : decode cX8_apart 2 = .ok (.isub, 1) := by decide +kernel
theorem dX8_apart_3 : decode cX8_apart 3 = .ok (.invokestatic 102, 3) := by decide +kernel
theorem dX8_apart_6 : decode cX8_apart 6 = .ok (.istore_n 2, 1) := by decide +kernel
theorem dX8_apart_7 : decode cX8_apart 7 = .ok (.iload_n 2, 1) := by decide +kernel
theorem dX8_apart_8 : decode cX8_apart 8 = .ok (.ldc 101, 2) := by decide +kernel
theorem dX8_apart_10 : decode cX8_apart 10 = .ok (.iload_n 2, 1) := by decide +kernel
theorem dX8_apart_11 : decode cX8_apart 11 = .ok (.isub, 1) := by decide +kernel
theorem dX8_apart_12 : decode cX8_apart 12 = .ok (.if_icmp .le 10, 3) := by decide +kernel
theorem dX8_apart_15 : decode cX8_apart 15 = .ok (.ldc 101, 2) := by decide +kernel
theorem dX8_apart_17 : decode cX8_apart 17 = .ok (.iload_n 2, 1) := by decide +kernel
theorem dX8_apart_18 : decode cX8_apart 18 = .ok (.isub, 1) := by decide +kernel
theorem dX8_apart_19 : decode cX8_apart 19 = .ok (.goto 4, 3) := by decide +kernel
theorem dX8_apart_22 : decode cX8_apart 22 = .ok (.iload_n 2, 1) := by decide +kernel
theorem dX8_apart_23 : decode cX8_apart 23 = .ok (.ireturn, 1) := by decide +kernel
theorem dX8_momentumOf_0 : decode cX8_momentumOf 0 = .ok (.aload_n 0, 1) := by decide +kernel
theorem dX8_momentumOf_1 : decode cX8_momentumOf 1 = .ok (.getfield 26, 3) := by decide +kernel
theorem dX8_momentumOf_4 : decode cX8_momentumOf 4 = .ok (.iload_n 1, 1) := by decide +kernel
theorem dX8_momentumOf_5 : decode cX8_momentumOf 5 = .ok (.iaload, 1) := by decide +kernel
theorem dX8_momentumOf_6 : decode cX8_momentumOf 6 = .ok (.i2l, 1) := by decide +kernel
theorem dX8_momentumOf_7 : decode cX8_momentumOf 7 = .ok (.aload_n 0, 1) := by decide +kernel
theorem dX8_momentumOf_8 : decode cX8_momentumOf 8 = .ok (.getfield 19, 3) := by decide +kernel
theorem dX8_momentumOf_11 : decode cX8_momentumOf 11 = .ok (.iload_n 1, 1) := by decide +kernel
theorem dX8_momentumOf_12 : decode cX8_momentumOf 12 = .ok (.iaload, 1) := by decide +kernel
theorem dX8_momentumOf_13 : decode cX8_momentumOf 13 = .ok (.bipush 20, 2) := by decide +kernel
theorem dX8_momentumOf_15 : decode cX8_momentumOf 15 = .ok (.iadd, 1) := by decide +kernel
theorem dX8_momentumOf_16 : decode cX8_momentumOf 16 = .ok (.i2l, 1) := by decide +kernel
theorem dX8_momentumOf_17 : decode cX8_momentumOf 17 = .ok (.lmul, 1) := by decide +kernel
theorem dX8_momentumOf_18 : decode cX8_momentumOf 18 = .ok (.lreturn, 1) := by decide +kernel
theorem dX8_goes_0 : decode cX8_goes 0 = .ok (.aload_n 0, 1) := by decide +kernel
theorem dX8_goes_1 : decode cX8_goes 1 = .ok (.getfield 19, 3) := by decide +kernel
theorem dX8_goes_4 : decode cX8_goes 4 = .ok (.iload_n 1, 1) := by decide +kernel
theorem dX8_goes_5 : decode cX8_goes 5 = .ok (.iload_n 2, 1) := by decide +kernel
theorem dX8_goes_6 : decode cX8_goes 6 = .ok (.iastore, 1) := by decide +kernel
theorem dX8_goes_7 : decode cX8_goes 7 = .ok (.iload_n 2, 1) := by decide +kernel
theorem dX8_goes_8 : decode cX8_goes 8 = .ok (.ifCond .ge 38, 3) := by decide +kernel
theorem dX8_goes_11 : decode cX8_goes 11 = .ok (.aload_n 0, 1) := by decide +kernel
theorem dX8_goes_12 : decode cX8_goes 12 = .ok (.getfield 35, 3) := by decide +kernel
theorem dX8_goes_15 : decode cX8_goes 15 = .ok (.iload_n 1, 1) := by decide +kernel
theorem dX8_goes_16 : decode cX8_goes 16 = .ok (.iconst 0, 1) := by decide +kernel
theorem dX8_goes_17 : decode cX8_goes 17 = .ok (.bastore, 1) := by decide +kernel
theorem dX8_goes_18 : decode cX8_goes 18 = .ok (.aload_n 0, 1) := by decide +kernel
theorem dX8_goes_19 : decode cX8_goes 19 = .ok (.dup, 1) := by decide +kernel
theorem dX8_goes_20 : decode cX8_goes 20 = .ok (.getfield 106, 3) := by decide +kernel
theorem dX8_goes_23 : decode cX8_goes 23 = .ok (.iconst 1, 1) := by decide +kernel
theorem dX8_goes_24 : decode cX8_goes 24 = .ok (.iadd, 1) := by decide +kernel
theorem dX8_goes_25 : decode cX8_goes 25 = .ok (.putfield 106, 3) := by decide +kernel
theorem dX8_goes_28 : decode cX8_goes 28 = .ok (.aload_n 0, 1) := by decide +kernel
theorem dX8_goes_29 : decode cX8_goes 29 = .ok (.dup, 1) := by decide +kernel
theorem dX8_goes_30 : decode cX8_goes 30 = .ok (.getfield 109, 3) := by decide +kernel
theorem dX8_goes_33 : decode cX8_goes 33 = .ok (.aload_n 0, 1) := by decide +kernel
theorem dX8_goes_34 : decode cX8_goes 34 = .ok (.getfield 26, 3) := by decide +kernel
theorem dX8_goes_37 : decode cX8_goes 37 = .ok (.iload_n 1, 1) := by decide +kernel
theorem dX8_goes_38 : decode cX8_goes 38 = .ok (.iaload, 1) := by decide +kernel
theorem dX8_goes_39 : decode cX8_goes 39 = .ok (.iadd, 1) := by decide +kernel
theorem dX8_goes_40 : decode cX8_goes 40 = .ok (.putfield 109, 3) := by decide +kernel
theorem dX8_goes_43 : decode cX8_goes 43 = .ok (.goto 41, 3) := by decide +kernel
theorem dX8_goes_46 : decode cX8_goes 46 = .ok (.iload_n 2, 1) := by decide +kernel
theorem dX8_goes_47 : decode cX8_goes 47 = .ok (.bipush 64, 2) := by decide +kernel
theorem dX8_goes_49 : decode cX8_goes 49 = .ok (.if_icmp .lt 35, 3) := by decide +kernel
theorem dX8_goes_52 : decode cX8_goes 52 = .ok (.aload_n 0, 1) := by decide +kernel
theorem dX8_goes_53 : decode cX8_goes 53 = .ok (.getfield 35, 3) := by decide +kernel
theorem dX8_goes_56 : decode cX8_goes 56 = .ok (.iload_n 1, 1) := by decide +kernel
theorem dX8_goes_57 : decode cX8_goes 57 = .ok (.iconst 0, 1) := by decide +kernel
theorem dX8_goes_58 : decode cX8_goes 58 = .ok (.bastore, 1) := by decide +kernel
theorem dX8_goes_59 : decode cX8_goes 59 = .ok (.aload_n 0, 1) := by decide +kernel
theorem dX8_goes_60 : decode cX8_goes 60 = .ok (.dup, 1) := by decide +kernel
theorem dX8_goes_61 : decode cX8_goes 61 = .ok (.getfield 112, 3) := by decide +kernel
theorem dX8_goes_64 : decode cX8_goes 64 = .ok (.iconst 1, 1) := by decide +kernel
theorem dX8_goes_65 : decode cX8_goes 65 = .ok (.iadd, 1) := by decide +kernel
theorem dX8_goes_66 : decode cX8_goes 66 = .ok (.putfield 112, 3) := by decide +kernel
theorem dX8_goes_69 : decode cX8_goes 69 = .ok (.aload_n 0, 1) := by decide +kernel
theorem dX8_goes_70 : decode cX8_goes 70 = .ok (.dup, 1) := by decide +kernel
theorem dX8_goes_71 : decode cX8_goes 71 = .ok (.getfield 115, 3) := by decide +kernel
theorem dX8_goes_74 : decode cX8_goes 74 = .ok (.aload_n 0, 1) := by decide +kernel
theorem dX8_goes_75 : decode cX8_goes 75 = .ok (.getfield 26, 3) := by decide +kernel
theorem dX8_goes_78 : decode cX8_goes 78 = .ok (.iload_n 1, 1) := by decide +kernel
theorem dX8_goes_79 : decode cX8_goes 79 = .ok (.iaload, 1) := by decide +kernel
theorem dX8_goes_80 : decode cX8_goes 80 = .ok (.iadd, 1) := by decide +kernel
theorem dX8_goes_81 : decode cX8_goes 81 = .ok (.putfield 115, 3) := by decide +kernel
theorem dX8_goes_84 : decode cX8_goes 84 = .ok (.return_, 1) := by decide +kernel
theorem dX8_widthOf_0 : decode cX8_widthOf 0 = .ok (.iconst 0, 1) := by decide +kernel
theorem dX8_widthOf_1 : decode cX8_widthOf 1 = .ok (.istore_n 1, 1) := by decide +kernel
theorem dX8_widthOf_2 : decode cX8_widthOf 2 = .ok (.iload_n 1, 1) := by decide +kernel
theorem dX8_widthOf_3 : decode cX8_widthOf 3 = .ok (.iconst 1, 1) := by decide +kernel
theorem dX8_widthOf_4 : decode cX8_widthOf 4 = .ok (.iadd, 1) := by decide +kernel
theorem dX8_widthOf_5 : decode cX8_widthOf 5 = .ok (.iload_n 1, 1) := by decide +kernel
theorem dX8_widthOf_6 : decode cX8_widthOf 6 = .ok (.iconst 1, 1) := by decide +kernel
theorem dX8_widthOf_7 : decode cX8_widthOf 7 = .ok (.iadd, 1) := by decide +kernel
theorem dX8_widthOf_8 : decode cX8_widthOf 8 = .ok (.imul, 1) := by decide +kernel
theorem dX8_widthOf_9 : decode cX8_widthOf 9 = .ok (.iload_n 0, 1) := by decide +kernel
theorem dX8_widthOf_10 : decode cX8_widthOf 10 = .ok (.if_icmp .gt 9, 3) := by decide +kernel
theorem dX8_widthOf_13 : decode cX8_widthOf 13 = .ok (.iinc 1 1, 3) := by decide +kernel
theorem dX8_widthOf_16 : decode cX8_widthOf 16 = .ok (.goto (-14), 3) := by decide +kernel
theorem dX8_widthOf_19 : decode cX8_widthOf 19 = .ok (.iload_n 1, 1) := by decide +kernel
theorem dX8_widthOf_20 : decode cX8_widthOf 20 = .ok (.bipush 20, 2) := by decide +kernel
theorem dX8_widthOf_22 : decode cX8_widthOf 22 = .ok (.idiv, 1) := by decide +kernel
theorem dX8_widthOf_23 : decode cX8_widthOf 23 = .ok (.ireturn, 1) := by decide +kernel
theorem dX8_pushes_0 : decode cX8_pushes 0 = .ok (.aload_n 0, 1) := by decide +kernel
theorem dX8_pushes_1 : decode cX8_pushes 1 = .ok (.getfield 48, 3) := by decide +kernel
theorem dX8_pushes_4 : decode cX8_pushes 4 = .ok (.iload_n 1, 1) := by decide +kernel
theorem dX8_pushes_5 : decode cX8_pushes 5 = .ok (.iaload, 1) := by decide +kernel
theorem dX8_pushes_6 : decode cX8_pushes 6 = .ok (.invokestatic 118, 3) := by decide +kernel
theorem dX8_pushes_9 : decode cX8_pushes 9 = .ok (.istore_n 2, 1) := by decide +kernel
theorem dX8_pushes_10 : decode cX8_pushes 10 = .ok (.iconst 0, 1) := by decide +kernel
theorem dX8_pushes_11 : decode cX8_pushes 11 = .ok (.istore_n 3, 1) := by decide +kernel
theorem dX8_pushes_12 : decode cX8_pushes 12 = .ok (.iload_n 3, 1) := by decide +kernel
theorem dX8_pushes_13 : decode cX8_pushes 13 = .ok (.aload_n 0, 1) := by decide +kernel
theorem dX8_pushes_14 : decode cX8_pushes 14 = .ok (.getfield 81, 3) := by decide +kernel
theorem dX8_pushes_17 : decode cX8_pushes 17 = .ok (.if_icmp .ge 148, 3) := by decide +kernel
theorem dX8_pushes_20 : decode cX8_pushes 20 = .ok (.aload_n 0, 1) := by decide +kernel
theorem dX8_pushes_21 : decode cX8_pushes 21 = .ok (.getfield 19, 3) := by decide +kernel
theorem dX8_pushes_24 : decode cX8_pushes 24 = .ok (.iload_n 3, 1) := by decide +kernel
theorem dX8_pushes_25 : decode cX8_pushes 25 = .ok (.iaload, 1) := by decide +kernel
theorem dX8_pushes_26 : decode cX8_pushes 26 = .ok (.aload_n 0, 1) := by decide +kernel
theorem dX8_pushes_27 : decode cX8_pushes 27 = .ok (.getfield 42, 3) := by decide +kernel
theorem dX8_pushes_30 : decode cX8_pushes 30 = .ok (.iload_n 1, 1) := by decide +kernel
theorem dX8_pushes_31 : decode cX8_pushes 31 = .ok (.iaload, 1) := by decide +kernel
theorem dX8_pushes_32 : decode cX8_pushes 32 = .ok (.isub, 1) := by decide +kernel
theorem dX8_pushes_33 : decode cX8_pushes 33 = .ok (.istore 4, 2) := by decide +kernel
theorem dX8_pushes_35 : decode cX8_pushes 35 = .ok (.aload_n 0, 1) := by decide +kernel
theorem dX8_pushes_36 : decode cX8_pushes 36 = .ok (.getfield 35, 3) := by decide +kernel
theorem dX8_pushes_39 : decode cX8_pushes 39 = .ok (.iload_n 3, 1) := by decide +kernel
theorem dX8_pushes_40 : decode cX8_pushes 40 = .ok (.baload, 1) := by decide +kernel
theorem dX8_pushes_41 : decode cX8_pushes 41 = .ok (.ifCond .eq 118, 3) := by decide +kernel
theorem dX8_pushes_44 : decode cX8_pushes 44 = .ok (.iload 4, 2) := by decide +kernel
theorem dX8_pushes_46 : decode cX8_pushes 46 = .ok (.invokestatic 102, 3) := by decide +kernel
theorem dX8_pushes_49 : decode cX8_pushes 49 = .ok (.iload_n 2, 1) := by decide +kernel
theorem dX8_pushes_50 : decode cX8_pushes 50 = .ok (.if_icmp .gt 109, 3) := by decide +kernel
theorem dX8_pushes_53 : decode cX8_pushes 53 = .ok (.aload_n 0, 1) := by decide +kernel
theorem dX8_pushes_54 : decode cX8_pushes 54 = .ok (.getfield 23, 3) := by decide +kernel
theorem dX8_pushes_57 : decode cX8_pushes 57 = .ok (.iload_n 3, 1) := by decide +kernel
theorem dX8_pushes_58 : decode cX8_pushes 58 = .ok (.iaload, 1) := by decide +kernel
theorem dX8_pushes_59 : decode cX8_pushes 59 = .ok (.aload_n 0, 1) := by decide +kernel
theorem dX8_pushes_60 : decode cX8_pushes 60 = .ok (.getfield 45, 3) := by decide +kernel
theorem dX8_pushes_63 : decode cX8_pushes 63 = .ok (.iload_n 1, 1) := by decide +kernel
theorem dX8_pushes_64 : decode cX8_pushes 64 = .ok (.iaload, 1) := by decide +kernel
theorem dX8_pushes_65 : decode cX8_pushes 65 = .ok (.invokestatic 121, 3) := by decide +kernel
theorem dX8_pushes_68 : decode cX8_pushes 68 = .ok (.sipush 1000, 3) := by decide +kernel
theorem dX8_pushes_71 : decode cX8_pushes 71 = .ok (.if_icmp .gt 88, 3) := by decide +kernel
theorem dX8_pushes_74 : decode cX8_pushes 74 = .ok (.aload_n 0, 1) := by decide +kernel
theorem dX8_pushes_75 : decode cX8_pushes 75 = .ok (.iload_n 3, 1) := by decide +kernel
theorem dX8_pushes_76 : decode cX8_pushes 76 = .ok (.invokevirtual 125, 3) := by decide +kernel
theorem dX8_pushes_79 : decode cX8_pushes 79 = .ok (.lstore 5, 2) := by decide +kernel
theorem dX8_pushes_81 : decode cX8_pushes 81 = .ok (.aload_n 0, 1) := by decide +kernel
theorem dX8_pushes_82 : decode cX8_pushes 82 = .ok (.iload_n 3, 1) := by decide +kernel
theorem dX8_pushes_83 : decode cX8_pushes 83 = .ok (.iload 4, 2) := by decide +kernel
theorem dX8_pushes_85 : decode cX8_pushes 85 = .ok (.ifCond .lt 14, 3) := by decide +kernel
theorem dX8_pushes_88 : decode cX8_pushes 88 = .ok (.aload_n 0, 1) := by decide +kernel
theorem dX8_pushes_89 : decode cX8_pushes 89 = .ok (.getfield 19, 3) := by decide +kernel
theorem dX8_pushes_92 : decode cX8_pushes 92 = .ok (.iload_n 3, 1) := by decide +kernel
theorem dX8_pushes_93 : decode cX8_pushes 93 = .ok (.iaload, 1) := by decide +kernel
theorem dX8_pushes_94 : decode cX8_pushes 94 = .ok (.iconst 1, 1) := by decide +kernel
theorem dX8_pushes_95 : decode cX8_pushes 95 = .ok (.iadd, 1) := by decide +kernel
theorem dX8_pushes_96 : decode cX8_pushes 96 = .ok (.goto 11, 3) := by decide +kernel
theorem dX8_pushes_99 : decode cX8_pushes 99 = .ok (.aload_n 0, 1) := by decide +kernel
theorem dX8_pushes_100 : decode cX8_pushes 100 = .ok (.getfield 19, 3) := by decide +kernel
theorem dX8_pushes_103 : decode cX8_pushes 103 = .ok (.iload_n 3, 1) := by decide +kernel
theorem dX8_pushes_104 : decode cX8_pushes 104 = .ok (.iaload, 1) := by decide +kernel
theorem dX8_pushes_105 : decode cX8_pushes 105 = .ok (.iconst 1, 1) := by decide +kernel
theorem dX8_pushes_106 : decode cX8_pushes 106 = .ok (.isub, 1) := by decide +kernel
theorem dX8_pushes_107 : decode cX8_pushes 107 = .ok (.invokevirtual 129, 3) := by decide +kernel
theorem dX8_pushes_110 : decode cX8_pushes 110 = .ok (.aload_n 0, 1) := by decide +kernel
theorem dX8_pushes_111 : decode cX8_pushes 111 = .ok (.getfield 29, 3) := by decide +kernel
theorem dX8_pushes_114 : decode cX8_pushes 114 = .ok (.iload_n 3, 1) := by decide +kernel
theorem dX8_pushes_115 : decode cX8_pushes 115 = .ok (.aload_n 0, 1) := by decide +kernel
theorem dX8_pushes_116 : decode cX8_pushes 116 = .ok (.getfield 29, 3) := by decide +kernel
theorem dX8_pushes_119 : decode cX8_pushes 119 = .ok (.iload_n 3, 1) := by decide +kernel
theorem dX8_pushes_120 : decode cX8_pushes 120 = .ok (.iaload, 1) := by decide +kernel
theorem dX8_pushes_121 : decode cX8_pushes 121 = .ok (.iconst 5, 1) := by decide +kernel
theorem dX8_pushes_122 : decode cX8_pushes 122 = .ok (.iadd, 1) := by decide +kernel
theorem dX8_pushes_123 : decode cX8_pushes 123 = .ok (.bipush 99, 2) := by decide +kernel
theorem dX8_pushes_125 : decode cX8_pushes 125 = .ok (.if_icmp .le 8, 3) := by decide +kernel
theorem dX8_pushes_128 : decode cX8_pushes 128 = .ok (.bipush 99, 2) := by decide +kernel
theorem dX8_pushes_130 : decode cX8_pushes 130 = .ok (.goto 11, 3) := by decide +kernel
theorem dX8_pushes_133 : decode cX8_pushes 133 = .ok (.aload_n 0, 1) := by decide +kernel
theorem dX8_pushes_134 : decode cX8_pushes 134 = .ok (.getfield 29, 3) := by decide +kernel
theorem dX8_pushes_137 : decode cX8_pushes 137 = .ok (.iload_n 3, 1) := by decide +kernel
theorem dX8_pushes_138 : decode cX8_pushes 138 = .ok (.iaload, 1) := by decide +kernel
theorem dX8_pushes_139 : decode cX8_pushes 139 = .ok (.iconst 5, 1) := by decide +kernel
theorem dX8_pushes_140 : decode cX8_pushes 140 = .ok (.iadd, 1) := by decide +kernel
theorem dX8_pushes_141 : decode cX8_pushes 141 = .ok (.iastore, 1) := by decide +kernel
theorem dX8_pushes_142 : decode cX8_pushes 142 = .ok (.aload_n 0, 1) := by decide +kernel
theorem dX8_pushes_143 : decode cX8_pushes 143 = .ok (.dup, 1) := by decide +kernel
theorem dX8_pushes_144 : decode cX8_pushes 144 = .ok (.getfield 133, 3) := by decide +kernel
theorem dX8_pushes_147 : decode cX8_pushes 147 = .ok (.aload_n 0, 1) := by decide +kernel
theorem dX8_pushes_148 : decode cX8_pushes 148 = .ok (.iload_n 3, 1) := by decide +kernel
theorem dX8_pushes_149 : decode cX8_pushes 149 = .ok (.invokevirtual 125, 3) := by decide +kernel
theorem dX8_pushes_152 : decode cX8_pushes 152 = .ok (.lload 5, 2) := by decide +kernel
theorem dX8_pushes_154 : decode cX8_pushes 154 = .ok (.lsub, 1) := by decide +kernel
theorem dX8_pushes_155 : decode cX8_pushes 155 = .ok (.ladd, 1) := by decide +kernel
theorem dX8_pushes_156 : decode cX8_pushes 156 = .ok (.putfield 133, 3) := by decide +kernel
theorem dX8_pushes_159 : decode cX8_pushes 159 = .ok (.iinc 3 1, 3) := by decide +kernel
theorem dX8_pushes_162 : decode cX8_pushes 162 = .ok (.goto (-150), 3) := by decide +kernel
theorem dX8_pushes_165 : decode cX8_pushes 165 = .ok (.return_, 1) := by decide +kernel
theorem dX8_sticks_0 : decode cX8_sticks 0 = .ok (.aload_n 0, 1) := by decide +kernel
theorem dX8_sticks_1 : decode cX8_sticks 1 = .ok (.getfield 26, 3) := by decide +kernel
theorem dX8_sticks_4 : decode cX8_sticks 4 = .ok (.iload_n 1, 1) := by decide +kernel
theorem dX8_sticks_5 : decode cX8_sticks 5 = .ok (.iaload, 1) := by decide +kernel
theorem dX8_sticks_6 : decode cX8_sticks 6 = .ok (.aload_n 0, 1) := by decide +kernel
theorem dX8_sticks_7 : decode cX8_sticks 7 = .ok (.getfield 26, 3) := by decide +kernel
theorem dX8_sticks_10 : decode cX8_sticks 10 = .ok (.iload_n 2, 1) := by decide +kernel
theorem dX8_sticks_11 : decode cX8_sticks 11 = .ok (.iaload, 1) := by decide +kernel
theorem dX8_sticks_12 : decode cX8_sticks 12 = .ok (.iadd, 1) := by decide +kernel
theorem dX8_sticks_13 : decode cX8_sticks 13 = .ok (.istore_n 3, 1) := by decide +kernel
theorem dX8_sticks_14 : decode cX8_sticks 14 = .ok (.aload_n 0, 1) := by decide +kernel
theorem dX8_sticks_15 : decode cX8_sticks 15 = .ok (.getfield 19, 3) := by decide +kernel
theorem dX8_sticks_18 : decode cX8_sticks 18 = .ok (.iload_n 1, 1) := by decide +kernel
theorem dX8_sticks_19 : decode cX8_sticks 19 = .ok (.aload_n 0, 1) := by decide +kernel
theorem dX8_sticks_20 : decode cX8_sticks 20 = .ok (.getfield 26, 3) := by decide +kernel
theorem dX8_sticks_23 : decode cX8_sticks 23 = .ok (.iload_n 1, 1) := by decide +kernel
theorem dX8_sticks_24 : decode cX8_sticks 24 = .ok (.iaload, 1) := by decide +kernel
theorem dX8_sticks_25 : decode cX8_sticks 25 = .ok (.i2l, 1) := by decide +kernel
theorem dX8_sticks_26 : decode cX8_sticks 26 = .ok (.aload_n 0, 1) := by decide +kernel
theorem dX8_sticks_27 : decode cX8_sticks 27 = .ok (.getfield 19, 3) := by decide +kernel
theorem dX8_sticks_30 : decode cX8_sticks 30 = .ok (.iload_n 1, 1) := by decide +kernel
theorem dX8_sticks_31 : decode cX8_sticks 31 = .ok (.iaload, 1) := by decide +kernel
theorem dX8_sticks_32 : decode cX8_sticks 32 = .ok (.i2l, 1) := by decide +kernel
theorem dX8_sticks_33 : decode cX8_sticks 33 = .ok (.lmul, 1) := by decide +kernel
theorem dX8_sticks_34 : decode cX8_sticks 34 = .ok (.aload_n 0, 1) := by decide +kernel
theorem dX8_sticks_35 : decode cX8_sticks 35 = .ok (.getfield 26, 3) := by decide +kernel
theorem dX8_sticks_38 : decode cX8_sticks 38 = .ok (.iload_n 2, 1) := by decide +kernel
theorem dX8_sticks_39 : decode cX8_sticks 39 = .ok (.iaload, 1) := by decide +kernel
theorem dX8_sticks_40 : decode cX8_sticks 40 = .ok (.i2l, 1) := by decide +kernel
theorem dX8_sticks_41 : decode cX8_sticks 41 = .ok (.aload_n 0, 1) := by decide +kernel
theorem dX8_sticks_42 : decode cX8_sticks 42 = .ok (.getfield 19, 3) := by decide +kernel
theorem dX8_sticks_45 : decode cX8_sticks 45 = .ok (.iload_n 2, 1) := by decide +kernel
theorem dX8_sticks_46 : decode cX8_sticks 46 = .ok (.iaload, 1) := by decide +kernel
theorem dX8_sticks_47 : decode cX8_sticks 47 = .ok (.i2l, 1) := by decide +kernel
theorem dX8_sticks_48 : decode cX8_sticks 48 = .ok (.lmul, 1) := by decide +kernel
theorem dX8_sticks_49 : decode cX8_sticks 49 = .ok (.ladd, 1) := by decide +kernel
theorem dX8_sticks_50 : decode cX8_sticks 50 = .ok (.iload_n 3, 1) := by decide +kernel
theorem dX8_sticks_51 : decode cX8_sticks 51 = .ok (.i2l, 1) := by decide +kernel
theorem dX8_sticks_52 : decode cX8_sticks 52 = .ok (.ldiv, 1) := by decide +kernel
theorem dX8_sticks_53 : decode cX8_sticks 53 = .ok (.l2i, 1) := by decide +kernel
theorem dX8_sticks_54 : decode cX8_sticks 54 = .ok (.iastore, 1) := by decide +kernel
theorem dX8_sticks_55 : decode cX8_sticks 55 = .ok (.aload_n 0, 1) := by decide +kernel
theorem dX8_sticks_56 : decode cX8_sticks 56 = .ok (.getfield 32, 3) := by decide +kernel
theorem dX8_sticks_59 : decode cX8_sticks 59 = .ok (.iload_n 1, 1) := by decide +kernel
theorem dX8_sticks_60 : decode cX8_sticks 60 = .ok (.aload_n 0, 1) := by decide +kernel
theorem dX8_sticks_61 : decode cX8_sticks 61 = .ok (.getfield 26, 3) := by decide +kernel
theorem dX8_sticks_64 : decode cX8_sticks 64 = .ok (.iload_n 1, 1) := by decide +kernel
theorem dX8_sticks_65 : decode cX8_sticks 65 = .ok (.iaload, 1) := by decide +kernel
theorem dX8_sticks_66 : decode cX8_sticks 66 = .ok (.i2l, 1) := by decide +kernel
theorem dX8_sticks_67 : decode cX8_sticks 67 = .ok (.aload_n 0, 1) := by decide +kernel
theorem dX8_sticks_68 : decode cX8_sticks 68 = .ok (.getfield 32, 3) := by decide +kernel
theorem dX8_sticks_71 : decode cX8_sticks 71 = .ok (.iload_n 1, 1) := by decide +kernel
theorem dX8_sticks_72 : decode cX8_sticks 72 = .ok (.iaload, 1) := by decide +kernel
theorem dX8_sticks_73 : decode cX8_sticks 73 = .ok (.i2l, 1) := by decide +kernel
theorem dX8_sticks_74 : decode cX8_sticks 74 = .ok (.lmul, 1) := by decide +kernel
theorem dX8_sticks_75 : decode cX8_sticks 75 = .ok (.aload_n 0, 1) := by decide +kernel
theorem dX8_sticks_76 : decode cX8_sticks 76 = .ok (.getfield 26, 3) := by decide +kernel
theorem dX8_sticks_79 : decode cX8_sticks 79 = .ok (.iload_n 2, 1) := by decide +kernel
theorem dX8_sticks_80 : decode cX8_sticks 80 = .ok (.iaload, 1) := by decide +kernel
theorem dX8_sticks_81 : decode cX8_sticks 81 = .ok (.i2l, 1) := by decide +kernel
theorem dX8_sticks_82 : decode cX8_sticks 82 = .ok (.aload_n 0, 1) := by decide +kernel
theorem dX8_sticks_83 : decode cX8_sticks 83 = .ok (.getfield 32, 3) := by decide +kernel
theorem dX8_sticks_86 : decode cX8_sticks 86 = .ok (.iload_n 2, 1) := by decide +kernel
theorem dX8_sticks_87 : decode cX8_sticks 87 = .ok (.iaload, 1) := by decide +kernel
theorem dX8_sticks_88 : decode cX8_sticks 88 = .ok (.i2l, 1) := by decide +kernel
theorem dX8_sticks_89 : decode cX8_sticks 89 = .ok (.lmul, 1) := by decide +kernel
theorem dX8_sticks_90 : decode cX8_sticks 90 = .ok (.ladd, 1) := by decide +kernel
theorem dX8_sticks_91 : decode cX8_sticks 91 = .ok (.iload_n 3, 1) := by decide +kernel
theorem dX8_sticks_92 : decode cX8_sticks 92 = .ok (.i2l, 1) := by decide +kernel
theorem dX8_sticks_93 : decode cX8_sticks 93 = .ok (.ldiv, 1) := by decide +kernel
theorem dX8_sticks_94 : decode cX8_sticks 94 = .ok (.l2i, 1) := by decide +kernel
theorem dX8_sticks_95 : decode cX8_sticks 95 = .ok (.iastore, 1) := by decide +kernel
theorem dX8_sticks_96 : decode cX8_sticks 96 = .ok (.aload_n 0, 1) := by decide +kernel
theorem dX8_sticks_97 : decode cX8_sticks 97 = .ok (.getfield 29, 3) := by decide +kernel
theorem dX8_sticks_100 : decode cX8_sticks 100 = .ok (.iload_n 1, 1) := by decide +kernel
theorem dX8_sticks_101 : decode cX8_sticks 101 = .ok (.aload_n 0, 1) := by decide +kernel
theorem dX8_sticks_102 : decode cX8_sticks 102 = .ok (.getfield 29, 3) := by decide +kernel
theorem dX8_sticks_105 : decode cX8_sticks 105 = .ok (.iload_n 1, 1) := by decide +kernel
theorem dX8_sticks_106 : decode cX8_sticks 106 = .ok (.iaload, 1) := by decide +kernel
theorem dX8_sticks_107 : decode cX8_sticks 107 = .ok (.aload_n 0, 1) := by decide +kernel
theorem dX8_sticks_108 : decode cX8_sticks 108 = .ok (.getfield 29, 3) := by decide +kernel
theorem dX8_sticks_111 : decode cX8_sticks 111 = .ok (.iload_n 2, 1) := by decide +kernel
theorem dX8_sticks_112 : decode cX8_sticks 112 = .ok (.iaload, 1) := by decide +kernel
theorem dX8_sticks_113 : decode cX8_sticks 113 = .ok (.if_icmp .ge 12, 3) := by decide +kernel
theorem dX8_sticks_116 : decode cX8_sticks 116 = .ok (.aload_n 0, 1) := by decide +kernel
theorem dX8_sticks_117 : decode cX8_sticks 117 = .ok (.getfield 29, 3) := by decide +kernel
theorem dX8_sticks_120 : decode cX8_sticks 120 = .ok (.iload_n 1, 1) := by decide +kernel
theorem dX8_sticks_121 : decode cX8_sticks 121 = .ok (.iaload, 1) := by decide +kernel
theorem dX8_sticks_122 : decode cX8_sticks 122 = .ok (.goto 9, 3) := by decide +kernel
theorem dX8_sticks_125 : decode cX8_sticks 125 = .ok (.aload_n 0, 1) := by decide +kernel
theorem dX8_sticks_126 : decode cX8_sticks 126 = .ok (.getfield 29, 3) := by decide +kernel
theorem dX8_sticks_129 : decode cX8_sticks 129 = .ok (.iload_n 2, 1) := by decide +kernel
theorem dX8_sticks_130 : decode cX8_sticks 130 = .ok (.iaload, 1) := by decide +kernel
theorem dX8_sticks_131 : decode cX8_sticks 131 = .ok (.iastore, 1) := by decide +kernel
theorem dX8_sticks_132 : decode cX8_sticks 132 = .ok (.aload_n 0, 1) := by decide +kernel
theorem dX8_sticks_133 : decode cX8_sticks 133 = .ok (.getfield 26, 3) := by decide +kernel
theorem dX8_sticks_136 : decode cX8_sticks 136 = .ok (.iload_n 1, 1) := by decide +kernel
theorem dX8_sticks_137 : decode cX8_sticks 137 = .ok (.iload_n 3, 1) := by decide +kernel
theorem dX8_sticks_138 : decode cX8_sticks 138 = .ok (.iastore, 1) := by decide +kernel
theorem dX8_sticks_139 : decode cX8_sticks 139 = .ok (.aload_n 0, 1) := by decide +kernel
theorem dX8_sticks_140 : decode cX8_sticks 140 = .ok (.getfield 35, 3) := by decide +kernel
theorem dX8_sticks_143 : decode cX8_sticks 143 = .ok (.iload_n 2, 1) := by decide +kernel
theorem dX8_sticks_144 : decode cX8_sticks 144 = .ok (.iconst 0, 1) := by decide +kernel
theorem dX8_sticks_145 : decode cX8_sticks 145 = .ok (.bastore, 1) := by decide +kernel
theorem dX8_sticks_146 : decode cX8_sticks 146 = .ok (.aload_n 0, 1) := by decide +kernel
theorem dX8_sticks_147 : decode cX8_sticks 147 = .ok (.dup, 1) := by decide +kernel
theorem dX8_sticks_148 : decode cX8_sticks 148 = .ok (.getfield 136, 3) := by decide +kernel
theorem dX8_sticks_151 : decode cX8_sticks 151 = .ok (.iconst 1, 1) := by decide +kernel
theorem dX8_sticks_152 : decode cX8_sticks 152 = .ok (.iadd, 1) := by decide +kernel
theorem dX8_sticks_153 : decode cX8_sticks 153 = .ok (.putfield 136, 3) := by decide +kernel
theorem dX8_sticks_156 : decode cX8_sticks 156 = .ok (.return_, 1) := by decide +kernel
theorem dX8_breaks_0 : decode cX8_breaks 0 = .ok (.aload_n 0, 1) := by decide +kernel
theorem dX8_breaks_1 : decode cX8_breaks 1 = .ok (.getfield 19, 3) := by decide +kernel
theorem dX8_breaks_4 : decode cX8_breaks 4 = .ok (.iload_n 1, 1) := by decide +kernel
theorem dX8_breaks_5 : decode cX8_breaks 5 = .ok (.iaload, 1) := by decide +kernel
theorem dX8_breaks_6 : decode cX8_breaks 6 = .ok (.istore_n 2, 1) := by decide +kernel
theorem dX8_breaks_7 : decode cX8_breaks 7 = .ok (.aload_n 0, 1) := by decide +kernel
theorem dX8_breaks_8 : decode cX8_breaks 8 = .ok (.getfield 26, 3) := by decide +kernel
theorem dX8_breaks_11 : decode cX8_breaks 11 = .ok (.iload_n 1, 1) := by decide +kernel
theorem dX8_breaks_12 : decode cX8_breaks 12 = .ok (.iaload, 1) := by decide +kernel
theorem dX8_breaks_13 : decode cX8_breaks 13 = .ok (.aload_n 0, 1) := by decide +kernel
theorem dX8_breaks_14 : decode cX8_breaks 14 = .ok (.getfield 26, 3) := by decide +kernel
theorem dX8_breaks_17 : decode cX8_breaks 17 = .ok (.iload_n 1, 1) := by decide +kernel
theorem dX8_breaks_18 : decode cX8_breaks 18 = .ok (.iaload, 1) := by decide +kernel
theorem dX8_breaks_19 : decode cX8_breaks 19 = .ok (.iconst 2, 1) := by decide +kernel
theorem dX8_breaks_20 : decode cX8_breaks 20 = .ok (.idiv, 1) := by decide +kernel
theorem dX8_breaks_21 : decode cX8_breaks 21 = .ok (.isub, 1) := by decide +kernel
theorem dX8_breaks_22 : decode cX8_breaks 22 = .ok (.istore_n 3, 1) := by decide +kernel
theorem dX8_breaks_23 : decode cX8_breaks 23 = .ok (.aload_n 0, 1) := by decide +kernel
theorem dX8_breaks_24 : decode cX8_breaks 24 = .ok (.getfield 26, 3) := by decide +kernel
theorem dX8_breaks_27 : decode cX8_breaks 27 = .ok (.iload_n 1, 1) := by decide +kernel
theorem dX8_breaks_28 : decode cX8_breaks 28 = .ok (.dup2, 1) := by decide +kernel
theorem dX8_breaks_29 : decode cX8_breaks 29 = .ok (.iaload, 1) := by decide +kernel
theorem dX8_breaks_30 : decode cX8_breaks 30 = .ok (.iconst 2, 1) := by decide +kernel
theorem dX8_breaks_31 : decode cX8_breaks 31 = .ok (.idiv, 1) := by decide +kernel
theorem dX8_breaks_32 : decode cX8_breaks 32 = .ok (.iastore, 1) := by decide +kernel
theorem dX8_breaks_33 : decode cX8_breaks 33 = .ok (.aload_n 0, 1) := by decide +kernel
theorem dX8_breaks_34 : decode cX8_breaks 34 = .ok (.getfield 29, 3) := by decide +kernel
theorem dX8_breaks_37 : decode cX8_breaks 37 = .ok (.iload_n 1, 1) := by decide +kernel
theorem dX8_breaks_38 : decode cX8_breaks 38 = .ok (.iconst 0, 1) := by decide +kernel
theorem dX8_breaks_39 : decode cX8_breaks 39 = .ok (.iastore, 1) := by decide +kernel
theorem dX8_breaks_40 : decode cX8_breaks 40 = .ok (.aload_n 0, 1) := by decide +kernel
theorem dX8_breaks_41 : decode cX8_breaks 41 = .ok (.iload_n 1, 1) := by decide +kernel
theorem dX8_breaks_42 : decode cX8_breaks 42 = .ok (.iload_n 2, 1) := by decide +kernel
theorem dX8_breaks_43 : decode cX8_breaks 43 = .ok (.iconst 1, 1) := by decide +kernel
theorem dX8_breaks_44 : decode cX8_breaks 44 = .ok (.isub, 1) := by decide +kernel
theorem dX8_breaks_45 : decode cX8_breaks 45 = .ok (.invokevirtual 129, 3) := by decide +kernel
theorem dX8_breaks_48 : decode cX8_breaks 48 = .ok (.aload_n 0, 1) := by decide +kernel
theorem dX8_breaks_49 : decode cX8_breaks 49 = .ok (.iload_n 2, 1) := by decide +kernel
theorem dX8_breaks_50 : decode cX8_breaks 50 = .ok (.aload_n 0, 1) := by decide +kernel
theorem dX8_breaks_51 : decode cX8_breaks 51 = .ok (.getfield 23, 3) := by decide +kernel
theorem dX8_breaks_54 : decode cX8_breaks 54 = .ok (.iload_n 1, 1) := by decide +kernel
theorem dX8_breaks_55 : decode cX8_breaks 55 = .ok (.iaload, 1) := by decide +kernel
