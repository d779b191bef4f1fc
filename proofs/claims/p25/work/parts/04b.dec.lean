theorem dX3_partnerOf_10 : decode cX3_partnerOf 10 = .ok (.istore 4, 2) := by decide +kernel
theorem dX3_partnerOf_12 : decode cX3_partnerOf 12 = .ok (.iload 4, 2) := by decide +kernel
theorem dX3_partnerOf_14 : decode cX3_partnerOf 14 = .ok (.iload_n 2, 1) := by decide +kernel
theorem dX3_partnerOf_15 : decode cX3_partnerOf 15 = .ok (.if_icmp .ge 49, 3) := by decide +kernel
theorem dX3_partnerOf_18 : decode cX3_partnerOf 18 = .ok (.aload_n 0, 1) := by decide +kernel
theorem dX3_partnerOf_19 : decode cX3_partnerOf 19 = .ok (.getfield 27, 3) := by decide +kernel
theorem dX3_partnerOf_22 : decode cX3_partnerOf 22 = .ok (.iload 4, 2) := by decide +kernel
theorem dX3_partnerOf_24 : decode cX3_partnerOf 24 = .ok (.aaload, 1) := by decide +kernel
theorem dX3_partnerOf_25 : decode cX3_partnerOf 25 = .ok (.astore 5, 2) := by decide +kernel
theorem dX3_partnerOf_27 : decode cX3_partnerOf 27 = .ok (.aload 5, 2) := by decide +kernel
theorem dX3_partnerOf_29 : decode cX3_partnerOf 29 = .ok (.invokevirtual 106, 3) := by decide +kernel
theorem dX3_partnerOf_32 : decode cX3_partnerOf 32 = .ok (.ifCond .eq 26, 3) := by decide +kernel
theorem dX3_partnerOf_35 : decode cX3_partnerOf 35 = .ok (.aload_n 3, 1) := by decide +kernel
theorem dX3_partnerOf_36 : decode cX3_partnerOf 36 = .ok (.aload 5, 2) := by decide +kernel
theorem dX3_partnerOf_38 : decode cX3_partnerOf 38 = .ok (.getfield 45, 3) := by decide +kernel
theorem dX3_partnerOf_41 : decode cX3_partnerOf 41 = .ok (.aload 5, 2) := by decide +kernel
theorem dX3_partnerOf_43 : decode cX3_partnerOf 43 = .ok (.getfield 48, 3) := by decide +kernel
theorem dX3_partnerOf_46 : decode cX3_partnerOf 46 = .ok (.iconst 1, 1) := by decide +kernel
theorem dX3_partnerOf_47 : decode cX3_partnerOf 47 = .ok (.bipush 100, 2) := by decide +kernel
theorem dX3_partnerOf_49 : decode cX3_partnerOf 49 = .ok (.invokevirtual 87, 3) := by decide +kernel
theorem dX3_partnerOf_52 : decode cX3_partnerOf 52 = .ok (.ifCond .eq 6, 3) := by decide +kernel
theorem dX3_partnerOf_55 : decode cX3_partnerOf 55 = .ok (.iload 4, 2) := by decide +kernel
theorem dX3_partnerOf_57 : decode cX3_partnerOf 57 = .ok (.ireturn, 1) := by decide +kernel
theorem dX3_partnerOf_58 : decode cX3_partnerOf 58 = .ok (.iinc 4 1, 3) := by decide +kernel
theorem dX3_partnerOf_61 : decode cX3_partnerOf 61 = .ok (.goto (-49), 3) := by decide +kernel
theorem dX3_partnerOf_64 : decode cX3_partnerOf 64 = .ok (.iconst (-1), 1) := by decide +kernel
theorem dX3_partnerOf_65 : decode cX3_partnerOf 65 = .ok (.ireturn, 1) := by decide +kernel
theorem dX3_meet_0 : decode cX3_meet 0 = .ok (.aload_n 1, 1) := by decide +kernel
theorem dX3_meet_1 : decode cX3_meet 1 = .ok (.iconst 1, 1) := by decide +kernel
theorem dX3_meet_2 : decode cX3_meet 2 = .ok (.putfield 103, 3) := by decide +kernel
theorem dX3_meet_5 : decode cX3_meet 5 = .ok (.aload_n 2, 1) := by decide +kernel
theorem dX3_meet_6 : decode cX3_meet 6 = .ok (.iconst 1, 1) := by decide +kernel
theorem dX3_meet_7 : decode cX3_meet 7 = .ok (.putfield 103, 3) := by decide +kernel
theorem dX3_meet_10 : decode cX3_meet 10 = .ok (.aload_n 1, 1) := by decide +kernel
theorem dX3_meet_11 : decode cX3_meet 11 = .ok (.getfield 54, 3) := by decide +kernel
theorem dX3_meet_14 : decode cX3_meet 14 = .ok (.aload_n 2, 1) := by decide +kernel
theorem dX3_meet_15 : decode cX3_meet 15 = .ok (.getfield 54, 3) := by decide +kernel
theorem dX3_meet_18 : decode cX3_meet 18 = .ok (.iadd, 1) := by decide +kernel
theorem dX3_meet_19 : decode cX3_meet 19 = .ok (.aload_n 0, 1) := by decide +kernel
theorem dX3_meet_20 : decode cX3_meet 20 = .ok (.getfield 12, 3) := by decide +kernel
theorem dX3_meet_23 : decode cX3_meet 23 = .ok (.aload_n 1, 1) := by decide +kernel
theorem dX3_meet_24 : decode cX3_meet 24 = .ok (.getfield 45, 3) := by decide +kernel
theorem dX3_meet_27 : decode cX3_meet 27 = .ok (.invokevirtual 72, 3) := by decide +kernel
theorem dX3_meet_30 : decode cX3_meet 30 = .ok (.aload_n 0, 1) := by decide +kernel
theorem dX3_meet_31 : decode cX3_meet 31 = .ok (.getfield 12, 3) := by decide +kernel
theorem dX3_meet_34 : decode cX3_meet 34 = .ok (.aload_n 2, 1) := by decide +kernel
theorem dX3_meet_35 : decode cX3_meet 35 = .ok (.getfield 45, 3) := by decide +kernel
theorem dX3_meet_38 : decode cX3_meet 38 = .ok (.invokevirtual 72, 3) := by decide +kernel
theorem dX3_meet_41 : decode cX3_meet 41 = .ok (.isub, 1) := by decide +kernel
theorem dX3_meet_42 : decode cX3_meet 42 = .ok (.invokestatic 120, 3) := by decide +kernel
theorem dX3_meet_45 : decode cX3_meet 45 = .ok (.iadd, 1) := by decide +kernel
theorem dX3_meet_46 : decode cX3_meet 46 = .ok (.istore_n 3, 1) := by decide +kernel
theorem dX3_meet_47 : decode cX3_meet 47 = .ok (.aload_n 1, 1) := by decide +kernel
theorem dX3_meet_48 : decode cX3_meet 48 = .ok (.getfield 51, 3) := by decide +kernel
theorem dX3_meet_51 : decode cX3_meet 51 = .ok (.aload_n 2, 1) := by decide +kernel
theorem dX3_meet_52 : decode cX3_meet 52 = .ok (.getfield 51, 3) := by decide +kernel
theorem dX3_meet_55 : decode cX3_meet 55 = .ok (.if_icmp .ge 7, 3) := by decide +kernel
theorem dX3_meet_58 : decode cX3_meet 58 = .ok (.aload_n 1, 1) := by decide +kernel
theorem dX3_meet_59 : decode cX3_meet 59 = .ok (.goto 4, 3) := by decide +kernel
theorem dX3_meet_62 : decode cX3_meet 62 = .ok (.aload_n 2, 1) := by decide +kernel
theorem dX3_meet_63 : decode cX3_meet 63 = .ok (.astore 4, 2) := by decide +kernel
theorem dX3_meet_65 : decode cX3_meet 65 = .ok (.iload_n 3, 1) := by decide +kernel
theorem dX3_meet_66 : decode cX3_meet 66 = .ok (.aload_n 0, 1) := by decide +kernel
theorem dX3_meet_67 : decode cX3_meet 67 = .ok (.getfield 32, 3) := by decide +kernel
theorem dX3_meet_70 : decode cX3_meet 70 = .ok (.if_icmp .gt 12, 3) := by decide +kernel
theorem dX3_meet_73 : decode cX3_meet 73 = .ok (.aload_n 0, 1) := by decide +kernel
theorem dX3_meet_74 : decode cX3_meet 74 = .ok (.aload_n 1, 1) := by decide +kernel
theorem dX3_meet_75 : decode cX3_meet 75 = .ok (.aload_n 2, 1) := by decide +kernel
theorem dX3_meet_76 : decode cX3_meet 76 = .ok (.invokevirtual 123, 3) := by decide +kernel
theorem dX3_meet_79 : decode cX3_meet 79 = .ok (.goto 44, 3) := by decide +kernel
theorem dX3_meet_82 : decode cX3_meet 82 = .ok (.iload_n 3, 1) := by decide +kernel
theorem dX3_meet_83 : decode cX3_meet 83 = .ok (.aload_n 0, 1) := by decide +kernel
theorem dX3_meet_84 : decode cX3_meet 84 = .ok (.getfield 36, 3) := by decide +kernel
theorem dX3_meet_87 : decode cX3_meet 87 = .ok (.if_icmp .le 30, 3) := by decide +kernel
theorem dX3_meet_90 : decode cX3_meet 90 = .ok (.aload 4, 2) := by decide +kernel
theorem dX3_meet_92 : decode cX3_meet 92 = .ok (.getfield 51, 3) := by decide +kernel
theorem dX3_meet_95 : decode cX3_meet 95 = .ok (.iconst 2, 1) := by decide +kernel
theorem dX3_meet_96 : decode cX3_meet 96 = .ok (.if_icmp .lt 21, 3) := by decide +kernel
theorem dX3_meet_99 : decode cX3_meet 99 = .ok (.aload_n 0, 1) := by decide +kernel
theorem dX3_meet_100 : decode cX3_meet 100 = .ok (.getfield 42, 3) := by decide +kernel
theorem dX3_meet_103 : decode cX3_meet 103 = .ok (.bipush 80, 2) := by decide +kernel
theorem dX3_meet_105 : decode cX3_meet 105 = .ok (.if_icmp .ge 12, 3) := by decide +kernel
theorem dX3_meet_108 : decode cX3_meet 108 = .ok (.aload_n 0, 1) := by decide +kernel
theorem dX3_meet_109 : decode cX3_meet 109 = .ok (.aload 4, 2) := by decide +kernel
theorem dX3_meet_111 : decode cX3_meet 111 = .ok (.invokevirtual 126, 3) := by decide +kernel
theorem dX3_meet_114 : decode cX3_meet 114 = .ok (.goto 9, 3) := by decide +kernel
theorem dX3_meet_117 : decode cX3_meet 117 = .ok (.aload_n 0, 1) := by decide +kernel
theorem dX3_meet_118 : decode cX3_meet 118 = .ok (.aload_n 1, 1) := by decide +kernel
theorem dX3_meet_119 : decode cX3_meet 119 = .ok (.aload_n 2, 1) := by decide +kernel
theorem dX3_meet_120 : decode cX3_meet 120 = .ok (.invokevirtual 130, 3) := by decide +kernel
theorem dX3_meet_123 : decode cX3_meet 123 = .ok (.return_, 1) := by decide +kernel
theorem dX3_stick_0 : decode cX3_stick 0 = .ok (.aload_n 1, 1) := by decide +kernel
theorem dX3_stick_1 : decode cX3_stick 1 = .ok (.invokevirtual 68, 3) := by decide +kernel
theorem dX3_stick_4 : decode cX3_stick 4 = .ok (.aload_n 2, 1) := by decide +kernel
theorem dX3_stick_5 : decode cX3_stick 5 = .ok (.invokevirtual 68, 3) := by decide +kernel
theorem dX3_stick_8 : decode cX3_stick 8 = .ok (.ladd, 1) := by decide +kernel
theorem dX3_stick_9 : decode cX3_stick 9 = .ok (.lstore_n 3, 1) := by decide +kernel
theorem dX3_stick_10 : decode cX3_stick 10 = .ok (.aload_n 1, 1) := by decide +kernel
theorem dX3_stick_11 : decode cX3_stick 11 = .ok (.aload_n 1, 1) := by decide +kernel
theorem dX3_stick_12 : decode cX3_stick 12 = .ok (.getfield 45, 3) := by decide +kernel
theorem dX3_stick_15 : decode cX3_stick 15 = .ok (.aload_n 2, 1) := by decide +kernel
theorem dX3_stick_16 : decode cX3_stick 16 = .ok (.aload_n 2, 1) := by decide +kernel
theorem dX3_stick_17 : decode cX3_stick 17 = .ok (.getfield 45, 3) := by decide +kernel
theorem dX3_stick_20 : decode cX3_stick 20 = .ok (.invokestatic 133, 3) := by decide +kernel
theorem dX3_stick_23 : decode cX3_stick 23 = .ok (.istore 5, 2) := by decide +kernel
theorem dX3_stick_25 : decode cX3_stick 25 = .ok (.aload_n 1, 1) := by decide +kernel
theorem dX3_stick_26 : decode cX3_stick 26 = .ok (.aload_n 1, 1) := by decide +kernel
theorem dX3_stick_27 : decode cX3_stick 27 = .ok (.getfield 117, 3) := by decide +kernel
theorem dX3_stick_30 : decode cX3_stick 30 = .ok (.aload_n 2, 1) := by decide +kernel
theorem dX3_stick_31 : decode cX3_stick 31 = .ok (.aload_n 2, 1) := by decide +kernel
theorem dX3_stick_32 : decode cX3_stick 32 = .ok (.getfield 117, 3) := by decide +kernel
theorem dX3_stick_35 : decode cX3_stick 35 = .ok (.invokestatic 133, 3) := by decide +kernel
theorem dX3_stick_38 : decode cX3_stick 38 = .ok (.istore 6, 2) := by decide +kernel
theorem dX3_stick_40 : decode cX3_stick 40 = .ok (.aload_n 1, 1) := by decide +kernel
theorem dX3_stick_41 : decode cX3_stick 41 = .ok (.iload 5, 2) := by decide +kernel
theorem dX3_stick_43 : decode cX3_stick 43 = .ok (.putfield 45, 3) := by decide +kernel
theorem dX3_stick_46 : decode cX3_stick 46 = .ok (.aload_n 1, 1) := by decide +kernel
theorem dX3_stick_47 : decode cX3_stick 47 = .ok (.iload 6, 2) := by decide +kernel
theorem dX3_stick_49 : decode cX3_stick 49 = .ok (.putfield 117, 3) := by decide +kernel
theorem dX3_stick_52 : decode cX3_stick 52 = .ok (.aload_n 1, 1) := by decide +kernel
theorem dX3_stick_53 : decode cX3_stick 53 = .ok (.aload_n 1, 1) := by decide +kernel
theorem dX3_stick_54 : decode cX3_stick 54 = .ok (.getfield 54, 3) := by decide +kernel
theorem dX3_stick_57 : decode cX3_stick 57 = .ok (.aload_n 2, 1) := by decide +kernel
theorem dX3_stick_58 : decode cX3_stick 58 = .ok (.getfield 54, 3) := by decide +kernel
theorem dX3_stick_61 : decode cX3_stick 61 = .ok (.invokestatic 95, 3) := by decide +kernel
theorem dX3_stick_64 : decode cX3_stick 64 = .ok (.putfield 54, 3) := by decide +kernel
theorem dX3_stick_67 : decode cX3_stick 67 = .ok (.aload_n 1, 1) := by decide +kernel
theorem dX3_stick_68 : decode cX3_stick 68 = .ok (.dup, 1) := by decide +kernel
theorem dX3_stick_69 : decode cX3_stick 69 = .ok (.getfield 51, 3) := by decide +kernel
theorem dX3_stick_72 : decode cX3_stick 72 = .ok (.aload_n 2, 1) := by decide +kernel
theorem dX3_stick_73 : decode cX3_stick 73 = .ok (.getfield 51, 3) := by decide +kernel
theorem dX3_stick_76 : decode cX3_stick 76 = .ok (.iadd, 1) := by decide +kernel
theorem dX3_stick_77 : decode cX3_stick 77 = .ok (.putfield 51, 3) := by decide +kernel
theorem dX3_stick_80 : decode cX3_stick 80 = .ok (.aload_n 2, 1) := by decide +kernel
theorem dX3_stick_81 : decode cX3_stick 81 = .ok (.iconst 0, 1) := by decide +kernel
theorem dX3_stick_82 : decode cX3_stick 82 = .ok (.putfield 57, 3) := by decide +kernel
theorem dX3_stick_85 : decode cX3_stick 85 = .ok (.aload_n 0, 1) := by decide +kernel
theorem dX3_stick_86 : decode cX3_stick 86 = .ok (.getfield 21, 3) := by decide +kernel
theorem dX3_stick_89 : decode cX3_stick 89 = .ok (.dup, 1) := by decide +kernel
theorem dX3_stick_90 : decode cX3_stick 90 = .ok (.getfield 137, 3) := by decide +kernel
theorem dX3_stick_93 : decode cX3_stick 93 = .ok (.iconst 1, 1) := by decide +kernel
theorem dX3_stick_94 : decode cX3_stick 94 = .ok (.iadd, 1) := by decide +kernel
theorem dX3_stick_95 : decode cX3_stick 95 = .ok (.putfield 137, 3) := by decide +kernel
theorem dX3_stick_98 : decode cX3_stick 98 = .ok (.aload_n 0, 1) := by decide +kernel
theorem dX3_stick_99 : decode cX3_stick 99 = .ok (.getfield 21, 3) := by decide +kernel
theorem dX3_stick_102 : decode cX3_stick 102 = .ok (.dup, 1) := by decide +kernel
theorem dX3_stick_103 : decode cX3_stick 103 = .ok (.getfield 140, 3) := by decide +kernel
theorem dX3_stick_106 : decode cX3_stick 106 = .ok (.lload_n 3, 1) := by decide +kernel
theorem dX3_stick_107 : decode cX3_stick 107 = .ok (.aload_n 1, 1) := by decide +kernel
theorem dX3_stick_108 : decode cX3_stick 108 = .ok (.invokevirtual 68, 3) := by decide +kernel
theorem dX3_stick_111 : decode cX3_stick 111 = .ok (.lsub, 1) := by decide +kernel
theorem dX3_stick_112 : decode cX3_stick 112 = .ok (.ladd, 1) := by decide +kernel
theorem dX3_stick_113 : decode cX3_stick 113 = .ok (.putfield 140, 3) := by decide +kernel
theorem dX3_stick_116 : decode cX3_stick 116 = .ok (.return_, 1) := by decide +kernel
theorem dX3_blend_0 : decode cX3_blend 0 = .ok (.aload_n 0, 1) := by decide +kernel
theorem dX3_blend_1 : decode cX3_blend 1 = .ok (.getfield 51, 3) := by decide +kernel
theorem dX3_blend_4 : decode cX3_blend 4 = .ok (.i2l, 1) := by decide +kernel
theorem dX3_blend_5 : decode cX3_blend 5 = .ok (.aload_n 2, 1) := by decide +kernel
theorem dX3_blend_6 : decode cX3_blend 6 = .ok (.getfield 51, 3) := by decide +kernel
theorem dX3_blend_9 : decode cX3_blend 9 = .ok (.i2l, 1) := by decide +kernel
theorem dX3_blend_10 : decode cX3_blend 10 = .ok (.ladd, 1) := by decide +kernel
theorem dX3_blend_11 : decode cX3_blend 11 = .ok (.lstore 4, 2) := by decide +kernel
theorem dX3_blend_13 : decode cX3_blend 13 = .ok (.lload 4, 2) := by decide +kernel
theorem dX3_blend_15 : decode cX3_blend 15 = .ok (.lconst 1, 1) := by decide +kernel
theorem dX3_blend_16 : decode cX3_blend 16 = .ok (.lcmp, 1) := by decide +kernel
theorem dX3_blend_17 : decode cX3_blend 17 = .ok (.ifCond .ge 5, 3) := by decide +kernel
theorem dX3_blend_20 : decode cX3_blend 20 = .ok (.iload_n 1, 1) := by decide +kernel
theorem dX3_blend_21 : decode cX3_blend 21 = .ok (.ireturn, 1) := by decide +kernel
theorem dX3_blend_22 : decode cX3_blend 22 = .ok (.aload_n 0, 1) := by decide +kernel
theorem dX3_blend_23 : decode cX3_blend 23 = .ok (.getfield 51, 3) := by decide +kernel
theorem dX3_blend_26 : decode cX3_blend 26 = .ok (.i2l, 1) := by decide +kernel
theorem dX3_blend_27 : decode cX3_blend 27 = .ok (.iload_n 1, 1) := by decide +kernel
theorem dX3_blend_28 : decode cX3_blend 28 = .ok (.i2l, 1) := by decide +kernel
theorem dX3_blend_29 : decode cX3_blend 29 = .ok (.lmul, 1) := by decide +kernel
theorem dX3_blend_30 : decode cX3_blend 30 = .ok (.aload_n 2, 1) := by decide +kernel
theorem dX3_blend_31 : decode cX3_blend 31 = .ok (.getfield 51, 3) := by decide +kernel
theorem dX3_blend_34 : decode cX3_blend 34 = .ok (.i2l, 1) := by decide +kernel
theorem dX3_blend_35 : decode cX3_blend 35 = .ok (.iload_n 3, 1) := by decide +kernel
theorem dX3_blend_36 : decode cX3_blend 36 = .ok (.i2l, 1) := by decide +kernel
theorem dX3_blend_37 : decode cX3_blend 37 = .ok (.lmul, 1) := by decide +kernel
theorem dX3_blend_38 : decode cX3_blend 38 = .ok (.ladd, 1) := by decide +kernel
theorem dX3_blend_39 : decode cX3_blend 39 = .ok (.lload 4, 2) := by decide +kernel
theorem dX3_blend_41 : decode cX3_blend 41 = .ok (.ldiv, 1) := by decide +kernel
theorem dX3_blend_42 : decode cX3_blend 42 = .ok (.l2i, 1) := by decide +kernel
theorem dX3_blend_43 : decode cX3_blend 43 = .ok (.ireturn, 1) := by decide +kernel
theorem dX3_breakUp_0 : decode cX3_breakUp 0 = .ok (.aload_n 0, 1) := by decide +kernel
theorem dX3_breakUp_1 : decode cX3_breakUp 1 = .ok (.getfield 42, 3) := by decide +kernel
theorem dX3_breakUp_4 : decode cX3_breakUp 4 = .ok (.bipush 80, 2) := by decide +kernel
theorem dX3_breakUp_6 : decode cX3_breakUp 6 = .ok (.if_icmp .lt 4, 3) := by decide +kernel
theorem dX3_breakUp_9 : decode cX3_breakUp 9 = .ok (.return_, 1) := by decide +kernel
theorem dX3_breakUp_10 : decode cX3_breakUp 10 = .ok (.aload_n 1, 1) := by decide +kernel
theorem dX3_breakUp_11 : decode cX3_breakUp 11 = .ok (.invokevirtual 68, 3) := by decide +kernel
theorem dX3_breakUp_14 : decode cX3_breakUp 14 = .ok (.lstore_n 2, 1) := by decide +kernel
theorem dX3_breakUp_15 : decode cX3_breakUp 15 = .ok (.aload_n 0, 1) := by decide +kernel
theorem dX3_breakUp_16 : decode cX3_breakUp 16 = .ok (.getfield 27, 3) := by decide +kernel
theorem dX3_breakUp_19 : decode cX3_breakUp 19 = .ok (.aload_n 0, 1) := by decide +kernel
theorem dX3_breakUp_20 : decode cX3_breakUp 20 = .ok (.getfield 42, 3) := by decide +kernel
theorem dX3_breakUp_23 : decode cX3_breakUp 23 = .ok (.aaload, 1) := by decide +kernel
theorem dX3_breakUp_24 : decode cX3_breakUp 24 = .ok (.astore 4, 2) := by decide +kernel
theorem dX3_breakUp_26 : decode cX3_breakUp 26 = .ok (.aload_n 0, 1) := by decide +kernel
theorem dX3_breakUp_27 : decode cX3_breakUp 27 = .ok (.dup, 1) := by decide +kernel
theorem dX3_breakUp_28 : decode cX3_breakUp 28 = .ok (.getfield 42, 3) := by decide +kernel
theorem dX3_breakUp_31 : decode cX3_breakUp 31 = .ok (.iconst 1, 1) := by decide +kernel
theorem dX3_breakUp_32 : decode cX3_breakUp 32 = .ok (.iadd, 1) := by decide +kernel
theorem dX3_breakUp_33 : decode cX3_breakUp 33 = .ok (.putfield 42, 3) := by decide +kernel
theorem dX3_breakUp_36 : decode cX3_breakUp 36 = .ok (.aload 4, 2) := by decide +kernel
theorem dX3_breakUp_38 : decode cX3_breakUp 38 = .ok (.aload_n 1, 1) := by decide +kernel
theorem dX3_breakUp_39 : decode cX3_breakUp 39 = .ok (.getfield 45, 3) := by decide +kernel
theorem dX3_breakUp_42 : decode cX3_breakUp 42 = .ok (.putfield 45, 3) := by decide +kernel
theorem dX3_breakUp_45 : decode cX3_breakUp 45 = .ok (.aload 4, 2) := by decide +kernel
theorem dX3_breakUp_47 : decode cX3_breakUp 47 = .ok (.aload_n 1, 1) := by decide +kernel
theorem dX3_breakUp_48 : decode cX3_breakUp 48 = .ok (.getfield 48, 3) := by decide +kernel
theorem dX3_breakUp_51 : decode cX3_breakUp 51 = .ok (.putfield 48, 3) := by decide +kernel
theorem dX3_breakUp_54 : decode cX3_breakUp 54 = .ok (.aload 4, 2) := by decide +kernel
theorem dX3_breakUp_56 : decode cX3_breakUp 56 = .ok (.aload_n 1, 1) := by decide +kernel
theorem dX3_breakUp_57 : decode cX3_breakUp 57 = .ok (.getfield 117, 3) := by decide +kernel
theorem dX3_breakUp_60 : decode cX3_breakUp 60 = .ok (.putfield 117, 3) := by decide +kernel
theorem dX3_breakUp_63 : decode cX3_breakUp 63 = .ok (.aload 4, 2) := by decide +kernel
theorem dX3_breakUp_65 : decode cX3_breakUp 65 = .ok (.iconst 0, 1) := by decide +kernel
theorem dX3_breakUp_66 : decode cX3_breakUp 66 = .ok (.putfield 54, 3) := by decide +kernel
theorem dX3_breakUp_69 : decode cX3_breakUp 69 = .ok (.aload 4, 2) := by decide +kernel
theorem dX3_breakUp_71 : decode cX3_breakUp 71 = .ok (.iconst 1, 1) := by decide +kernel
theorem dX3_breakUp_72 : decode cX3_breakUp 72 = .ok (.putfield 57, 3) := by decide +kernel
theorem dX3_breakUp_75 : decode cX3_breakUp 75 = .ok (.aload 4, 2) := by decide +kernel
theorem dX3_breakUp_77 : decode cX3_breakUp 77 = .ok (.aload_n 1, 1) := by decide +kernel
theorem dX3_breakUp_78 : decode cX3_breakUp 78 = .ok (.getfield 51, 3) := by decide +kernel
theorem dX3_breakUp_81 : decode cX3_breakUp 81 = .ok (.aload_n 1, 1) := by decide +kernel
theorem dX3_breakUp_82 : decode cX3_breakUp 82 = .ok (.getfield 51, 3) := by decide +kernel
theorem dX3_breakUp_85 : decode cX3_breakUp 85 = .ok (.iconst 2, 1) := by decide +kernel
theorem dX3_breakUp_86 : decode cX3_breakUp 86 = .ok (.idiv, 1) := by decide +kernel
theorem dX3_breakUp_87 : decode cX3_breakUp 87 = .ok (.isub, 1) := by decide +kernel
theorem dX3_breakUp_88 : decode cX3_breakUp 88 = .ok (.putfield 51, 3) := by decide +kernel
theorem dX3_breakUp_91 : decode cX3_breakUp 91 = .ok (.aload_n 1, 1) := by decide +kernel
theorem dX3_breakUp_92 : decode cX3_breakUp 92 = .ok (.aload_n 1, 1) := by decide +kernel
theorem dX3_breakUp_93 : decode cX3_breakUp 93 = .ok (.getfield 51, 3) := by decide +kernel
theorem dX3_breakUp_96 : decode cX3_breakUp 96 = .ok (.iconst 2, 1) := by decide +kernel
theorem dX3_breakUp_97 : decode cX3_breakUp 97 = .ok (.idiv, 1) := by decide +kernel
theorem dX3_breakUp_98 : decode cX3_breakUp 98 = .ok (.putfield 51, 3) := by decide +kernel
theorem dX3_breakUp_101 : decode cX3_breakUp 101 = .ok (.aload_n 1, 1) := by decide +kernel
theorem dX3_breakUp_102 : decode cX3_breakUp 102 = .ok (.iconst 0, 1) := by decide +kernel
theorem dX3_breakUp_103 : decode cX3_breakUp 103 = .ok (.putfield 54, 3) := by decide +kernel
theorem dX3_breakUp_106 : decode cX3_breakUp 106 = .ok (.aload_n 0, 1) := by decide +kernel
theorem dX3_breakUp_107 : decode cX3_breakUp 107 = .ok (.aload_n 1, 1) := by decide +kernel
theorem dX3_breakUp_108 : decode cX3_breakUp 108 = .ok (.iconst (-1), 1) := by decide +kernel
theorem dX3_breakUp_109 : decode cX3_breakUp 109 = .ok (.invokevirtual 91, 3) := by decide +kernel
theorem dX3_breakUp_112 : decode cX3_breakUp 112 = .ok (.aload_n 0, 1) := by decide +kernel
theorem dX3_breakUp_113 : decode cX3_breakUp 113 = .ok (.aload 4, 2) := by decide +kernel
theorem dX3_breakUp_115 : decode cX3_breakUp 115 = .ok (.iconst 1, 1) := by decide +kernel
theorem dX3_breakUp_116 : decode cX3_breakUp 116 = .ok (.invokevirtual 91, 3) := by decide +kernel
theorem dX3_breakUp_119 : decode cX3_breakUp 119 = .ok (.aload_n 0, 1) := by decide +kernel
theorem dX3_breakUp_120 : decode cX3_breakUp 120 = .ok (.getfield 21, 3) := by decide +kernel
theorem dX3_breakUp_123 : decode cX3_breakUp 123 = .ok (.dup, 1) := by decide +kernel
theorem dX3_breakUp_124 : decode cX3_breakUp 124 = .ok (.getfield 143, 3) := by decide +kernel
theorem dX3_breakUp_127 : decode cX3_breakUp 127 = .ok (.iconst 1, 1) := by decide +kernel
theorem dX3_breakUp_128 : decode cX3_breakUp 128 = .ok (.iadd, 1) := by decide +kernel
theorem dX3_breakUp_129 : decode cX3_breakUp 129 = .ok (.putfield 143, 3) := by decide +kernel
theorem dX3_breakUp_132 : decode cX3_breakUp 132 = .ok (.aload_n 0, 1) := by decide +kernel
theorem dX3_breakUp_133 : decode cX3_breakUp 133 = .ok (.getfield 21, 3) := by decide +kernel
theorem dX3_breakUp_136 : decode cX3_breakUp 136 = .ok (.dup, 1) := by decide +kernel
theorem dX3_breakUp_137 : decode cX3_breakUp 137 = .ok (.getfield 140, 3) := by decide +kernel
theorem dX3_breakUp_140 : decode cX3_breakUp 140 = .ok (.lload_n 2, 1) := by decide +kernel
theorem dX3_breakUp_141 : decode cX3_breakUp 141 = .ok (.aload_n 1, 1) := by decide +kernel
theorem dX3_breakUp_142 : decode cX3_breakUp 142 = .ok (.invokevirtual 68, 3) := by decide +kernel
theorem dX3_breakUp_145 : decode cX3_breakUp 145 = .ok (.lsub, 1) := by decide +kernel
theorem dX3_breakUp_146 : decode cX3_breakUp 146 = .ok (.aload 4, 2) := by decide +kernel
theorem dX3_breakUp_148 : decode cX3_breakUp 148 = .ok (.invokevirtual 68, 3) := by decide +kernel
theorem dX3_breakUp_151 : decode cX3_breakUp 151 = .ok (.lsub, 1) := by decide +kernel
theorem dX3_breakUp_152 : decode cX3_breakUp 152 = .ok (.ladd, 1) := by decide +kernel
theorem dX3_breakUp_153 : decode cX3_breakUp 153 = .ok (.putfield 140, 3) := by decide +kernel
theorem dX3_breakUp_156 : decode cX3_breakUp 156 = .ok (.return_, 1) := by decide +kernel
theorem dX3_bump_0 : decode cX3_bump 0 = .ok (.aload_n 1, 1) := by decide +kernel
theorem dX3_bump_1 : decode cX3_bump 1 = .ok (.invokevirtual 68, 3) := by decide +kernel
theorem dX3_bump_4 : decode cX3_bump 4 = .ok (.aload_n 2, 1) := by decide +kernel
theorem dX3_bump_5 : decode cX3_bump 5 = .ok (.invokevirtual 68, 3) := by decide +kernel
theorem dX3_bump_8 : decode cX3_bump 8 = .ok (.ladd, 1) := by decide +kernel
theorem dX3_bump_9 : decode cX3_bump 9 = .ok (.lstore_n 3, 1) := by decide +kernel
theorem dX3_bump_10 : decode cX3_bump 10 = .ok (.aload_n 1, 1) := by decide +kernel
theorem dX3_bump_11 : decode cX3_bump 11 = .ok (.getfield 45, 3) := by decide +kernel
theorem dX3_bump_14 : decode cX3_bump 14 = .ok (.aload_n 2, 1) := by decide +kernel
theorem dX3_bump_15 : decode cX3_bump 15 = .ok (.getfield 45, 3) := by decide +kernel
theorem dX3_bump_18 : decode cX3_bump 18 = .ok (.if_icmp .gt 7, 3) := by decide +kernel
theorem dX3_bump_21 : decode cX3_bump 21 = .ok (.iconst (-1), 1) := by decide +kernel
theorem dX3_bump_22 : decode cX3_bump 22 = .ok (.goto 4, 3) := by decide +kernel
theorem dX3_bump_25 : decode cX3_bump 25 = .ok (.iconst 1, 1) := by decide +kernel
theorem dX3_bump_26 : decode cX3_bump 26 = .ok (.istore 5, 2) := by decide +kernel
theorem dX3_bump_28 : decode cX3_bump 28 = .ok (.aload_n 0, 1) := by decide +kernel
theorem dX3_bump_29 : decode cX3_bump 29 = .ok (.aload_n 1, 1) := by decide +kernel
theorem dX3_bump_30 : decode cX3_bump 30 = .ok (.iload 5, 2) := by decide +kernel
theorem dX3_bump_32 : decode cX3_bump 32 = .ok (.invokevirtual 91, 3) := by decide +kernel
theorem dX3_bump_35 : decode cX3_bump 35 = .ok (.aload_n 0, 1) := by decide +kernel
theorem dX3_bump_36 : decode cX3_bump 36 = .ok (.aload_n 2, 1) := by decide +kernel
theorem dX3_bump_37 : decode cX3_bump 37 = .ok (.iload 5, 2) := by decide +kernel
theorem dX3_bump_39 : decode cX3_bump 39 = .ok (.ineg, 1) := by decide +kernel
theorem dX3_bump_40 : decode cX3_bump 40 = .ok (.invokevirtual 91, 3) := by decide +kernel
theorem dX3_bump_43 : decode cX3_bump 43 = .ok (.aload_n 1, 1) := by decide +kernel
theorem dX3_bump_44 : decode cX3_bump 44 = .ok (.aload_n 1, 1) := by decide +kernel
theorem dX3_bump_45 : decode cX3_bump 45 = .ok (.getfield 54, 3) := by decide +kernel
theorem dX3_bump_48 : decode cX3_bump 48 = .ok (.aload_n 0, 1) := by decide +kernel
theorem dX3_bump_49 : decode cX3_bump 49 = .ok (.getfield 39, 3) := by decide +kernel
theorem dX3_bump_52 : decode cX3_bump 52 = .ok (.imul, 1) := by decide +kernel
theorem dX3_bump_53 : decode cX3_bump 53 = .ok (.bipush 100, 2) := by decide +kernel
theorem dX3_bump_55 : decode cX3_bump 55 = .ok (.idiv, 1) := by decide +kernel
theorem dX3_bump_56 : decode cX3_bump 56 = .ok (.putfield 54, 3) := by decide +kernel
theorem dX3_bump_59 : decode cX3_bump 59 = .ok (.aload_n 2, 1) := by decide +kernel
theorem dX3_bump_60 : decode cX3_bump 60 = .ok (.aload_n 2, 1) := by decide +kernel
theorem dX3_bump_61 : decode cX3_bump 61 = .ok (.getfield 54, 3) := by decide +kernel
theorem dX3_bump_64 : decode cX3_bump 64 = .ok (.aload_n 0, 1) := by decide +kernel
theorem dX3_bump_65 : decode cX3_bump 65 = .ok (.getfield 39, 3) := by decide +kernel
theorem dX3_bump_68 : decode cX3_bump 68 = .ok (.imul, 1) := by decide +kernel
theorem dX3_bump_69 : decode cX3_bump 69 = .ok (.bipush 100, 2) := by decide +kernel
theorem dX3_bump_71 : decode cX3_bump 71 = .ok (.idiv, 1) := by decide +kernel
theorem dX3_bump_72 : decode cX3_bump 72 = .ok (.putfield 54, 3) := by decide +kernel
theorem dX3_bump_75 : decode cX3_bump 75 = .ok (.aload_n 0, 1) := by decide +kernel
theorem dX3_bump_76 : decode cX3_bump 76 = .ok (.getfield 21, 3) := by decide +kernel
theorem dX3_bump_79 : decode cX3_bump 79 = .ok (.dup, 1) := by decide +kernel
theorem dX3_bump_80 : decode cX3_bump 80 = .ok (.getfield 146, 3) := by decide +kernel
theorem dX3_bump_83 : decode cX3_bump 83 = .ok (.iconst 1, 1) := by decide +kernel
theorem dX3_bump_84 : decode cX3_bump 84 = .ok (.iadd, 1) := by decide +kernel
theorem dX3_bump_85 : decode cX3_bump 85 = .ok (.putfield 146, 3) := by decide +kernel
theorem dX3_bump_88 : decode cX3_bump 88 = .ok (.aload_n 0, 1) := by decide +kernel
theorem dX3_bump_89 : decode cX3_bump 89 = .ok (.getfield 21, 3) := by decide +kernel
theorem dX3_bump_92 : decode cX3_bump 92 = .ok (.dup, 1) := by decide +kernel
theorem dX3_bump_93 : decode cX3_bump 93 = .ok (.getfield 140, 3) := by decide +kernel
theorem dX3_bump_96 : decode cX3_bump 96 = .ok (.lload_n 3, 1) := by decide +kernel
theorem dX3_bump_97 : decode cX3_bump 97 = .ok (.aload_n 1, 1) := by decide +kernel
theorem dX3_bump_98 : decode cX3_bump 98 = .ok (.invokevirtual 68, 3) := by decide +kernel
theorem dX3_bump_101 : decode cX3_bump 101 = .ok (.lsub, 1) := by decide +kernel
theorem dX3_bump_102 : decode cX3_bump 102 = .ok (.aload_n 2, 1) := by decide +kernel
theorem dX3_bump_103 : decode cX3_bump 103 = .ok (.invokevirtual 68, 3) := by decide +kernel
theorem dX3_bump_106 : decode cX3_bump 106 = .ok (.lsub, 1) := by decide +kernel
theorem dX3_bump_107 : decode cX3_bump 107 = .ok (.ladd, 1) := by decide +kernel
theorem dX3_bump_108 : decode cX3_bump 108 = .ok (.putfield 140, 3) := by decide +kernel
theorem dX3_bump_111 : decode cX3_bump 111 = .ok (.return_, 1) := by decide +kernel
theorem dX3_shift_0 : decode cX3_shift 0 = .ok (.aload_n 1, 1) := by decide +kernel
theorem dX3_shift_1 : decode cX3_shift 1 = .ok (.dup, 1) := by decide +kernel
theorem dX3_shift_2 : decode cX3_shift 2 = .ok (.getfield 45, 3) := by decide +kernel
theorem dX3_shift_5 : decode cX3_shift 5 = .ok (.iload_n 2, 1) := by decide +kernel
theorem dX3_shift_6 : decode cX3_shift 6 = .ok (.iadd, 1) := by decide +kernel
theorem dX3_shift_7 : decode cX3_shift 7 = .ok (.putfield 45, 3) := by decide +kernel
theorem dX3_shift_10 : decode cX3_shift 10 = .ok (.aload_n 1, 1) := by decide +kernel
theorem dX3_shift_11 : decode cX3_shift 11 = .ok (.getfield 45, 3) := by decide +kernel
theorem dX3_shift_14 : decode cX3_shift 14 = .ok (.ifCond .ge 56, 3) := by decide +kernel
theorem dX3_shift_17 : decode cX3_shift 17 = .ok (.aload_n 1, 1) := by decide +kernel
theorem dX3_shift_18 : decode cX3_shift 18 = .ok (.iconst 0, 1) := by decide +kernel
theorem dX3_shift_19 : decode cX3_shift 19 = .ok (.putfield 57, 3) := by decide +kernel
theorem dX3_shift_22 : decode cX3_shift 22 = .ok (.aload_n 0, 1) := by decide +kernel
theorem dX3_shift_23 : decode cX3_shift 23 = .ok (.getfield 21, 3) := by decide +kernel
theorem dX3_shift_26 : decode cX3_shift 26 = .ok (.dup, 1) := by decide +kernel
theorem dX3_shift_27 : decode cX3_shift 27 = .ok (.getfield 149, 3) := by decide +kernel
theorem dX3_shift_30 : decode cX3_shift 30 = .ok (.iconst 1, 1) := by decide +kernel
theorem dX3_shift_31 : decode cX3_shift 31 = .ok (.iadd, 1) := by decide +kernel
theorem dX3_shift_32 : decode cX3_shift 32 = .ok (.putfield 149, 3) := by decide +kernel
theorem dX3_shift_35 : decode cX3_shift 35 = .ok (.aload_n 0, 1) := by decide +kernel
theorem dX3_shift_36 : decode cX3_shift 36 = .ok (.getfield 21, 3) := by decide +kernel
theorem dX3_shift_39 : decode cX3_shift 39 = .ok (.dup, 1) := by decide +kernel
theorem dX3_shift_40 : decode cX3_shift 40 = .ok (.getfield 152, 3) := by decide +kernel
theorem dX3_shift_43 : decode cX3_shift 43 = .ok (.aload_n 1, 1) := by decide +kernel
theorem dX3_shift_44 : decode cX3_shift 44 = .ok (.getfield 51, 3) := by decide +kernel
theorem dX3_shift_47 : decode cX3_shift 47 = .ok (.iadd, 1) := by decide +kernel
theorem dX3_shift_48 : decode cX3_shift 48 = .ok (.putfield 152, 3) := by decide +kernel
theorem dX3_shift_51 : decode cX3_shift 51 = .ok (.aload_n 0, 1) := by decide +kernel
theorem dX3_shift_52 : decode cX3_shift 52 = .ok (.getfield 21, 3) := by decide +kernel
theorem dX3_shift_55 : decode cX3_shift 55 = .ok (.dup, 1) := by decide +kernel
theorem dX3_shift_56 : decode cX3_shift 56 = .ok (.getfield 155, 3) := by decide +kernel
theorem dX3_shift_59 : decode cX3_shift 59 = .ok (.aload_n 1, 1) := by decide +kernel
theorem dX3_shift_60 : decode cX3_shift 60 = .ok (.invokevirtual 68, 3) := by decide +kernel
theorem dX3_shift_63 : decode cX3_shift 63 = .ok (.ladd, 1) := by decide +kernel
theorem dX3_shift_64 : decode cX3_shift 64 = .ok (.putfield 155, 3) := by decide +kernel
theorem dX3_shift_67 : decode cX3_shift 67 = .ok (.goto 62, 3) := by decide +kernel
theorem dX3_shift_70 : decode cX3_shift 70 = .ok (.aload_n 1, 1) := by decide +kernel
theorem dX3_shift_71 : decode cX3_shift 71 = .ok (.getfield 45, 3) := by decide +kernel
theorem dX3_shift_74 : decode cX3_shift 74 = .ok (.bipush 64, 2) := by decide +kernel
theorem dX3_shift_76 : decode cX3_shift 76 = .ok (.if_icmp .lt 53, 3) := by decide +kernel
theorem dX3_shift_79 : decode cX3_shift 79 = .ok (.aload_n 1, 1) := by decide +kernel
theorem dX3_shift_80 : decode cX3_shift 80 = .ok (.iconst 0, 1) := by decide +kernel
theorem dX3_shift_81 : decode cX3_shift 81 = .ok (.putfield 57, 3) := by decide +kernel
theorem dX3_shift_84 : decode cX3_shift 84 = .ok (.aload_n 0, 1) := by decide +kernel
theorem dX3_shift_85 : decode cX3_shift 85 = .ok (.getfield 21, 3) := by decide +kernel
theorem dX3_shift_88 : decode cX3_shift 88 = .ok (.dup, 1) := by decide +kernel
theorem dX3_shift_89 : decode cX3_shift 89 = .ok (.getfield 158, 3) := by decide +kernel
theorem dX3_shift_92 : decode cX3_shift 92 = .ok (.iconst 1, 1) := by decide +kernel
theorem dX3_shift_93 : decode cX3_shift 93 = .ok (.iadd, 1) := by decide +kernel
theorem dX3_shift_94 : decode cX3_shift 94 = .ok (.putfield 158, 3) := by decide +kernel
theorem dX3_shift_97 : decode cX3_shift 97 = .ok (.aload_n 0, 1) := by decide +kernel
theorem dX3_shift_98 : decode cX3_shift 98 = .ok (.getfield 21, 3) := by decide +kernel
theorem dX3_shift_101 : decode cX3_shift 101 = .ok (.dup, 1) := by decide +kernel
theorem dX3_shift_102 : decode cX3_shift 102 = .ok (.getfield 161, 3) := by decide +kernel
theorem dX3_shift_105 : decode cX3_shift 105 = .ok (.aload_n 1, 1) := by decide +kernel
theorem dX3_shift_106 : decode cX3_shift 106 = .ok (.getfield 51, 3) := by decide +kernel
theorem dX3_shift_109 : decode cX3_shift 109 = .ok (.iadd, 1) := by decide +kernel
theorem dX3_shift_110 : decode cX3_shift 110 = .ok (.putfield 161, 3) := by decide +kernel
theorem dX3_shift_113 : decode cX3_shift 113 = .ok (.aload_n 0, 1) := by decide +kernel
theorem dX3_shift_114 : decode cX3_shift 114 = .ok (.getfield 21, 3) := by decide +kernel
theorem dX3_shift_117 : decode cX3_shift 117 = .ok (.dup, 1) := by decide +kernel
theorem dX3_shift_118 : decode cX3_shift 118 = .ok (.getfield 164, 3) := by decide +kernel
theorem dX3_shift_121 : decode cX3_shift 121 = .ok (.aload_n 1, 1) := by decide +kernel
theorem dX3_shift_122 : decode cX3_shift 122 = .ok (.invokevirtual 68, 3) := by decide +kernel
theorem dX3_shift_125 : decode cX3_shift 125 = .ok (.ladd, 1) := by decide +kernel
theorem dX3_shift_126 : decode cX3_shift 126 = .ok (.putfield 164, 3) := by decide +kernel
theorem dX3_shift_129 : decode cX3_shift 129 = .ok (.return_, 1) := by decide +kernel
theorem dX4_init_0 : decode cX4_init 0 = .ok (.aload_n 0, 1) := by decide +kernel
theorem dX4_init_1 : decode cX4_init 1 = .ok (.invokespecial 1, 3) := by decide +kernel
theorem dX4_init_4 : decode cX4_init 4 = .ok (.return_, 1) := by decide +kernel
theorem dX5_init_0 : decode cX5_init 0 = .ok (.aload_n 0, 1) := by decide +kernel
theorem dX5_init_1 : decode cX5_init 1 = .ok (.invokespecial 1, 3) := by decide +kernel
theorem dX5_init_4 : decode cX5_init 4 = .ok (.return_, 1) := by decide +kernel
theorem dX6_init_0 : decode cX6_init 0 = .ok (.aload_n 0, 1) := by decide +kernel
theorem dX6_init_1 : decode cX6_init 1 = .ok (.invokespecial 3, 3) := by decide +kernel
theorem dX6_init_4 : decode cX6_init 4 = .ok (.return_, 1) := by decide +kernel
theorem dX6_speedIn_0 : decode cX6_speedIn 0 = .ok (.iload_n 1, 1) := by decide +kernel
theorem dX6_speedIn_1 : decode cX6_speedIn 1 = .ok (.invokestatic 9, 3) := by decide +kernel
theorem dX6_speedIn_4 : decode cX6_speedIn 4 = .ok (.istore_n 2, 1) := by decide +kernel
theorem dX6_speedIn_5 : decode cX6_speedIn 5 = .ok (.iload_n 2, 1) := by decide +kernel
theorem dX6_speedIn_6 : decode cX6_speedIn 6 = .ok (.iconst 1, 1) := by decide +kernel
theorem dX6_speedIn_7 : decode cX6_speedIn 7 = .ok (.if_icmp .ge 5, 3) := by decide +kernel
theorem dX6_speedIn_10 : decode cX6_speedIn 10 = .ok (.iconst 0, 1) := by decide +kernel
theorem dX6_speedIn_11 : decode cX6_speedIn 11 = .ok (.ireturn, 1) := by decide +kernel
theorem dX6_speedIn_12 : decode cX6_speedIn 12 = .ok (.ldc 13, 2) := by decide +kernel
theorem dX6_speedIn_14 : decode cX6_speedIn 14 = .ok (.iload_n 2, 1) := by decide +kernel
theorem dX6_speedIn_15 : decode cX6_speedIn 15 = .ok (.idiv, 1) := by decide +kernel
theorem dX6_speedIn_16 : decode cX6_speedIn 16 = .ok (.bipush 100, 2) := by decide +kernel
theorem dX6_speedIn_18 : decode cX6_speedIn 18 = .ok (.aload_n 0, 1) := by decide +kernel
theorem dX6_speedIn_19 : decode cX6_speedIn 19 = .ok (.getfield 14, 3) := by decide +kernel
theorem dX6_speedIn_22 : decode cX6_speedIn 22 = .ok (.imul, 1) := by decide +kernel
theorem dX6_speedIn_23 : decode cX6_speedIn 23 = .ok (.iload_n 2, 1) := by decide +kernel
theorem dX6_speedIn_24 : decode cX6_speedIn 24 = .ok (.iload_n 2, 1) := by decide +kernel
theorem dX6_speedIn_25 : decode cX6_speedIn 25 = .ok (.imul, 1) := by decide +kernel
theorem dX6_speedIn_26 : decode cX6_speedIn 26 = .ok (.idiv, 1) := by decide +kernel
theorem dX6_speedIn_27 : decode cX6_speedIn 27 = .ok (.iadd, 1) := by decide +kernel
theorem dX6_speedIn_28 : decode cX6_speedIn 28 = .ok (.ireturn, 1) := by decide +kernel
theorem dX7_init_0 : decode cX7_init 0 = .ok (.aload_n 0, 1) := by decide +kernel
theorem dX7_init_1 : decode cX7_init 1 = .ok (.invokespecial 3, 3) := by decide +kernel
theorem dX7_init_4 : decode cX7_init 4 = .ok (.aload_n 0, 1) := by decide +kernel
theorem dX7_init_5 : decode cX7_init 5 = .ok (.new 9, 3) := by decide +kernel
theorem dX7_init_8 : decode cX7_init 8 = .ok (.dup, 1) := by decide +kernel
theorem dX7_init_9 : decode cX7_init 9 = .ok (.invokespecial 11, 3) := by decide +kernel
theorem dX7_init_12 : decode cX7_init 12 = .ok (.putfield 12, 3) := by decide +kernel
theorem dX7_init_15 : decode cX7_init 15 = .ok (.aload_n 0, 1) := by decide +kernel
theorem dX7_init_16 : decode cX7_init 16 = .ok (.bipush 6, 2) := by decide +kernel
theorem dX7_init_18 : decode cX7_init 18 = .ok (.anewarray 16, 3) := by decide +kernel
theorem dX7_init_21 : decode cX7_init 21 = .ok (.putfield 18, 3) := by decide +kernel
theorem dX7_init_24 : decode cX7_init 24 = .ok (.iconst 0, 1) := by decide +kernel
theorem dX7_init_25 : decode cX7_init 25 = .ok (.istore_n 1, 1) := by decide +kernel
theorem dX7_init_26 : decode cX7_init 26 = .ok (.iload_n 1, 1) := by decide +kernel
theorem dX7_init_27 : decode cX7_init 27 = .ok (.bipush 6, 2) := by decide +kernel
theorem dX7_init_29 : decode cX7_init 29 = .ok (.if_icmp .ge 22, 3) := by decide +kernel
theorem dX7_init_32 : decode cX7_init 32 = .ok (.aload_n 0, 1) := by decide +kernel
theorem dX7_init_33 : decode cX7_init 33 = .ok (.getfield 18, 3) := by decide +kernel
theorem dX7_init_36 : decode cX7_init 36 = .ok (.iload_n 1, 1) := by decide +kernel
theorem dX7_init_37 : decode cX7_init 37 = .ok (.new 16, 3) := by decide +kernel
theorem dX7_init_40 : decode cX7_init 40 = .ok (.dup, 1) := by decide +kernel
theorem dX7_init_41 : decode cX7_init 41 = .ok (.invokespecial 22, 3) := by decide +kernel
theorem dX7_init_44 : decode cX7_init 44 = .ok (.aastore, 1) := by decide +kernel
theorem dX7_init_45 : decode cX7_init 45 = .ok (.iinc 1 1, 3) := by decide +kernel
theorem dX7_init_48 : decode cX7_init 48 = .ok (.goto (-22), 3) := by decide +kernel
theorem dX7_init_51 : decode cX7_init 51 = .ok (.aload_n 0, 1) := by decide +kernel
theorem dX7_init_52 : decode cX7_init 52 = .ok (.bipush 20, 2) := by decide +kernel
