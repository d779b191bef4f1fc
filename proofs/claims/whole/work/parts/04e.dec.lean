theorem dX8_sum_99 : decode cX8_sum 99 = .ok (.aload_n 0, 1) := by decide +kernel
theorem dX8_sum_100 : decode cX8_sum 100 = .ok (.getfield 84, 3) := by decide +kernel
theorem dX8_sum_103 : decode cX8_sum 103 = .ok (.ireturn, 1) := by decide +kernel
theorem dX8_momentumNow_0 : decode cX8_momentumNow 0 = .ok (.lconst 0, 1) := by decide +kernel
theorem dX8_momentumNow_1 : decode cX8_momentumNow 1 = .ok (.lstore_n 1, 1) := by decide +kernel
theorem dX8_momentumNow_2 : decode cX8_momentumNow 2 = .ok (.iconst 0, 1) := by decide +kernel
theorem dX8_momentumNow_3 : decode cX8_momentumNow 3 = .ok (.istore_n 3, 1) := by decide +kernel
theorem dX8_momentumNow_4 : decode cX8_momentumNow 4 = .ok (.iload_n 3, 1) := by decide +kernel
theorem dX8_momentumNow_5 : decode cX8_momentumNow 5 = .ok (.aload_n 0, 1) := by decide +kernel
theorem dX8_momentumNow_6 : decode cX8_momentumNow 6 = .ok (.getfield 81, 3) := by decide +kernel
theorem dX8_momentumNow_9 : decode cX8_momentumNow 9 = .ok (.if_icmp .ge 30, 3) := by decide +kernel
theorem dX8_momentumNow_12 : decode cX8_momentumNow 12 = .ok (.lload_n 1, 1) := by decide +kernel
theorem dX8_momentumNow_13 : decode cX8_momentumNow 13 = .ok (.aload_n 0, 1) := by decide +kernel
theorem dX8_momentumNow_14 : decode cX8_momentumNow 14 = .ok (.getfield 35, 3) := by decide +kernel
theorem dX8_momentumNow_17 : decode cX8_momentumNow 17 = .ok (.iload_n 3, 1) := by decide +kernel
theorem dX8_momentumNow_18 : decode cX8_momentumNow 18 = .ok (.baload, 1) := by decide +kernel
theorem dX8_momentumNow_19 : decode cX8_momentumNow 19 = .ok (.ifCond .eq 11, 3) := by decide +kernel
theorem dX8_momentumNow_22 : decode cX8_momentumNow 22 = .ok (.aload_n 0, 1) := by decide +kernel
theorem dX8_momentumNow_23 : decode cX8_momentumNow 23 = .ok (.iload_n 3, 1) := by decide +kernel
theorem dX8_momentumNow_24 : decode cX8_momentumNow 24 = .ok (.invokevirtual 125, 3) := by decide +kernel
theorem dX8_momentumNow_27 : decode cX8_momentumNow 27 = .ok (.goto 4, 3) := by decide +kernel
theorem dX8_momentumNow_30 : decode cX8_momentumNow 30 = .ok (.lconst 0, 1) := by decide +kernel
theorem dX8_momentumNow_31 : decode cX8_momentumNow 31 = .ok (.ladd, 1) := by decide +kernel
theorem dX8_momentumNow_32 : decode cX8_momentumNow 32 = .ok (.lstore_n 1, 1) := by decide +kernel
theorem dX8_momentumNow_33 : decode cX8_momentumNow 33 = .ok (.iinc 3 1, 3) := by decide +kernel
theorem dX8_momentumNow_36 : decode cX8_momentumNow 36 = .ok (.goto (-32), 3) := by decide +kernel
theorem dX8_momentumNow_39 : decode cX8_momentumNow 39 = .ok (.lload_n 1, 1) := by decide +kernel
theorem dX8_momentumNow_40 : decode cX8_momentumNow 40 = .ok (.lreturn, 1) := by decide +kernel
theorem dX8_momentum_0 : decode cX8_momentum 0 = .ok (.aload_n 0, 1) := by decide +kernel
theorem dX8_momentum_1 : decode cX8_momentum 1 = .ok (.iload_n 1, 1) := by decide +kernel
theorem dX8_momentum_2 : decode cX8_momentum 2 = .ok (.iconst 0, 1) := by decide +kernel
theorem dX8_momentum_3 : decode cX8_momentum 3 = .ok (.iconst 5, 1) := by decide +kernel
theorem dX8_momentum_4 : decode cX8_momentum 4 = .ok (.invokestatic 72, 3) := by decide +kernel
theorem dX8_momentum_7 : decode cX8_momentum 7 = .ok (.ifCond .eq 7, 3) := by decide +kernel
theorem dX8_momentum_10 : decode cX8_momentum 10 = .ok (.iconst 0, 1) := by decide +kernel
theorem dX8_momentum_11 : decode cX8_momentum 11 = .ok (.goto 4, 3) := by decide +kernel
theorem dX8_momentum_14 : decode cX8_momentum 14 = .ok (.iconst 1, 1) := by decide +kernel
theorem dX8_momentum_15 : decode cX8_momentum 15 = .ok (.putfield 69, 3) := by decide +kernel
theorem dX8_momentum_18 : decode cX8_momentum 18 = .ok (.aload_n 0, 1) := by decide +kernel
theorem dX8_momentum_19 : decode cX8_momentum 19 = .ok (.getfield 69, 3) := by decide +kernel
theorem dX8_momentum_22 : decode cX8_momentum 22 = .ok (.ifCond .le 5, 3) := by decide +kernel
theorem dX8_momentum_25 : decode cX8_momentum 25 = .ok (.lconst 0, 1) := by decide +kernel
theorem dX8_momentum_26 : decode cX8_momentum 26 = .ok (.lreturn, 1) := by decide +kernel
theorem dX8_momentum_27 : decode cX8_momentum 27 = .ok (.iload_n 1, 1) := by decide +kernel
theorem dX8_momentum_28 : decode cX8_momentum 28 = .ok (.tableswitch 71 0 4 #[36, 41, 51, 61, 66], 36) := by decide +kernel
theorem dX8_momentum_64 : decode cX8_momentum 64 = .ok (.aload_n 0, 1) := by decide +kernel
theorem dX8_momentum_65 : decode cX8_momentum 65 = .ok (.invokevirtual 194, 3) := by decide +kernel
theorem dX8_momentum_68 : decode cX8_momentum 68 = .ok (.lreturn, 1) := by decide +kernel
theorem dX8_momentum_69 : decode cX8_momentum 69 = .ok (.aload_n 0, 1) := by decide +kernel
theorem dX8_momentum_70 : decode cX8_momentum 70 = .ok (.getfield 109, 3) := by decide +kernel
theorem dX8_momentum_73 : decode cX8_momentum 73 = .ok (.i2l, 1) := by decide +kernel
theorem dX8_momentum_74 : decode cX8_momentum 74 = .ok (.ldc2_w 198, 3) := by decide +kernel
theorem dX8_momentum_77 : decode cX8_momentum 77 = .ok (.lmul, 1) := by decide +kernel
theorem dX8_momentum_78 : decode cX8_momentum 78 = .ok (.lreturn, 1) := by decide +kernel
theorem dX8_momentum_79 : decode cX8_momentum 79 = .ok (.aload_n 0, 1) := by decide +kernel
theorem dX8_momentum_80 : decode cX8_momentum 80 = .ok (.getfield 115, 3) := by decide +kernel
theorem dX8_momentum_83 : decode cX8_momentum 83 = .ok (.i2l, 1) := by decide +kernel
theorem dX8_momentum_84 : decode cX8_momentum 84 = .ok (.ldc2_w 200, 3) := by decide +kernel
theorem dX8_momentum_87 : decode cX8_momentum 87 = .ok (.lmul, 1) := by decide +kernel
theorem dX8_momentum_88 : decode cX8_momentum 88 = .ok (.lreturn, 1) := by decide +kernel
theorem dX8_momentum_89 : decode cX8_momentum 89 = .ok (.aload_n 0, 1) := by decide +kernel
theorem dX8_momentum_90 : decode cX8_momentum 90 = .ok (.getfield 87, 3) := by decide +kernel
theorem dX8_momentum_93 : decode cX8_momentum 93 = .ok (.lreturn, 1) := by decide +kernel
theorem dX8_momentum_94 : decode cX8_momentum 94 = .ok (.aload_n 0, 1) := by decide +kernel
theorem dX8_momentum_95 : decode cX8_momentum 95 = .ok (.getfield 133, 3) := by decide +kernel
theorem dX8_momentum_98 : decode cX8_momentum 98 = .ok (.lreturn, 1) := by decide +kernel
theorem dX8_momentum_99 : decode cX8_momentum 99 = .ok (.aload_n 0, 1) := by decide +kernel
theorem dX8_momentum_100 : decode cX8_momentum 100 = .ok (.getfield 151, 3) := by decide +kernel
theorem dX8_momentum_103 : decode cX8_momentum 103 = .ok (.lreturn, 1) := by decide +kernel
theorem dX8_momentumByLanes_0 : decode cX8_momentumByLanes 0 = .ok (.aload_n 0, 1) := by decide +kernel
theorem dX8_momentumByLanes_1 : decode cX8_momentumByLanes 1 = .ok (.iconst 0, 1) := by decide +kernel
theorem dX8_momentumByLanes_2 : decode cX8_momentumByLanes 2 = .ok (.putfield 69, 3) := by decide +kernel
theorem dX8_momentumByLanes_5 : decode cX8_momentumByLanes 5 = .ok (.aload_n 0, 1) := by decide +kernel
theorem dX8_momentumByLanes_6 : decode cX8_momentumByLanes 6 = .ok (.invokevirtual 194, 3) := by decide +kernel
theorem dX8_momentumByLanes_9 : decode cX8_momentumByLanes 9 = .ok (.lreturn, 1) := by decide +kernel
theorem dX8_resonanceOf_0 : decode cX8_resonanceOf 0 = .ok (.iconst (-1), 1) := by decide +kernel
theorem dX8_resonanceOf_1 : decode cX8_resonanceOf 1 = .ok (.istore_n 3, 1) := by decide +kernel
theorem dX8_resonanceOf_2 : decode cX8_resonanceOf 2 = .ok (.bipush 9, 2) := by decide +kernel
theorem dX8_resonanceOf_4 : decode cX8_resonanceOf 4 = .ok (.istore 4, 2) := by decide +kernel
theorem dX8_resonanceOf_6 : decode cX8_resonanceOf 6 = .ok (.iconst 1, 1) := by decide +kernel
theorem dX8_resonanceOf_7 : decode cX8_resonanceOf 7 = .ok (.istore 5, 2) := by decide +kernel
theorem dX8_resonanceOf_9 : decode cX8_resonanceOf 9 = .ok (.iload 5, 2) := by decide +kernel
theorem dX8_resonanceOf_11 : decode cX8_resonanceOf 11 = .ok (.bipush 10, 2) := by decide +kernel
theorem dX8_resonanceOf_13 : decode cX8_resonanceOf 13 = .ok (.if_icmp .ge 106, 3) := by decide +kernel
theorem dX8_resonanceOf_16 : decode cX8_resonanceOf 16 = .ok (.iconst 1, 1) := by decide +kernel
theorem dX8_resonanceOf_17 : decode cX8_resonanceOf 17 = .ok (.istore 6, 2) := by decide +kernel
theorem dX8_resonanceOf_19 : decode cX8_resonanceOf 19 = .ok (.iload 6, 2) := by decide +kernel
theorem dX8_resonanceOf_21 : decode cX8_resonanceOf 21 = .ok (.bipush 10, 2) := by decide +kernel
theorem dX8_resonanceOf_23 : decode cX8_resonanceOf 23 = .ok (.if_icmp .ge 90, 3) := by decide +kernel
theorem dX8_resonanceOf_26 : decode cX8_resonanceOf 26 = .ok (.iload 5, 2) := by decide +kernel
theorem dX8_resonanceOf_28 : decode cX8_resonanceOf 28 = .ok (.iload 6, 2) := by decide +kernel
theorem dX8_resonanceOf_30 : decode cX8_resonanceOf 30 = .ok (.if_icmp .eq 37, 3) := by decide +kernel
theorem dX8_resonanceOf_33 : decode cX8_resonanceOf 33 = .ok (.iload 5, 2) := by decide +kernel
theorem dX8_resonanceOf_35 : decode cX8_resonanceOf 35 = .ok (.aload_n 0, 1) := by decide +kernel
theorem dX8_resonanceOf_36 : decode cX8_resonanceOf 36 = .ok (.aload_n 0, 1) := by decide +kernel
theorem dX8_resonanceOf_37 : decode cX8_resonanceOf 37 = .ok (.getfield 42, 3) := by decide +kernel
theorem dX8_resonanceOf_40 : decode cX8_resonanceOf 40 = .ok (.iload_n 1, 1) := by decide +kernel
theorem dX8_resonanceOf_41 : decode cX8_resonanceOf 41 = .ok (.iaload, 1) := by decide +kernel
theorem dX8_resonanceOf_42 : decode cX8_resonanceOf 42 = .ok (.invokevirtual 145, 3) := by decide +kernel
theorem dX8_resonanceOf_45 : decode cX8_resonanceOf 45 = .ok (.imul, 1) := by decide +kernel
theorem dX8_resonanceOf_46 : decode cX8_resonanceOf 46 = .ok (.iload 6, 2) := by decide +kernel
theorem dX8_resonanceOf_48 : decode cX8_resonanceOf 48 = .ok (.aload_n 0, 1) := by decide +kernel
theorem dX8_resonanceOf_49 : decode cX8_resonanceOf 49 = .ok (.iload_n 2, 1) := by decide +kernel
theorem dX8_resonanceOf_50 : decode cX8_resonanceOf 50 = .ok (.invokevirtual 145, 3) := by decide +kernel
theorem dX8_resonanceOf_53 : decode cX8_resonanceOf 53 = .ok (.imul, 1) := by decide +kernel
theorem dX8_resonanceOf_54 : decode cX8_resonanceOf 54 = .ok (.isub, 1) := by decide +kernel
theorem dX8_resonanceOf_55 : decode cX8_resonanceOf 55 = .ok (.invokestatic 102, 3) := by decide +kernel
theorem dX8_resonanceOf_58 : decode cX8_resonanceOf 58 = .ok (.bipush 20, 2) := by decide +kernel
theorem dX8_resonanceOf_60 : decode cX8_resonanceOf 60 = .ok (.if_icmp .gt 7, 3) := by decide +kernel
theorem dX8_resonanceOf_63 : decode cX8_resonanceOf 63 = .ok (.iconst 1, 1) := by decide +kernel
theorem dX8_resonanceOf_64 : decode cX8_resonanceOf 64 = .ok (.goto 4, 3) := by decide +kernel
theorem dX8_resonanceOf_67 : decode cX8_resonanceOf 67 = .ok (.iconst 0, 1) := by decide +kernel
theorem dX8_resonanceOf_68 : decode cX8_resonanceOf 68 = .ok (.istore 7, 2) := by decide +kernel
theorem dX8_resonanceOf_70 : decode cX8_resonanceOf 70 = .ok (.iload 7, 2) := by decide +kernel
theorem dX8_resonanceOf_72 : decode cX8_resonanceOf 72 = .ok (.ifCond .eq 35, 3) := by decide +kernel
theorem dX8_resonanceOf_75 : decode cX8_resonanceOf 75 = .ok (.iload 5, 2) := by decide +kernel
theorem dX8_resonanceOf_77 : decode cX8_resonanceOf 77 = .ok (.iload 6, 2) := by decide +kernel
theorem dX8_resonanceOf_79 : decode cX8_resonanceOf 79 = .ok (.isub, 1) := by decide +kernel
theorem dX8_resonanceOf_80 : decode cX8_resonanceOf 80 = .ok (.invokestatic 102, 3) := by decide +kernel
theorem dX8_resonanceOf_83 : decode cX8_resonanceOf 83 = .ok (.iload 4, 2) := by decide +kernel
theorem dX8_resonanceOf_85 : decode cX8_resonanceOf 85 = .ok (.if_icmp .ge 22, 3) := by decide +kernel
theorem dX8_resonanceOf_88 : decode cX8_resonanceOf 88 = .ok (.iload 5, 2) := by decide +kernel
theorem dX8_resonanceOf_90 : decode cX8_resonanceOf 90 = .ok (.iload 6, 2) := by decide +kernel
theorem dX8_resonanceOf_92 : decode cX8_resonanceOf 92 = .ok (.isub, 1) := by decide +kernel
theorem dX8_resonanceOf_93 : decode cX8_resonanceOf 93 = .ok (.invokestatic 102, 3) := by decide +kernel
theorem dX8_resonanceOf_96 : decode cX8_resonanceOf 96 = .ok (.istore 4, 2) := by decide +kernel
theorem dX8_resonanceOf_98 : decode cX8_resonanceOf 98 = .ok (.bipush 10, 2) := by decide +kernel
theorem dX8_resonanceOf_100 : decode cX8_resonanceOf 100 = .ok (.iload 5, 2) := by decide +kernel
theorem dX8_resonanceOf_102 : decode cX8_resonanceOf 102 = .ok (.imul, 1) := by decide +kernel
theorem dX8_resonanceOf_103 : decode cX8_resonanceOf 103 = .ok (.iload 6, 2) := by decide +kernel
theorem dX8_resonanceOf_105 : decode cX8_resonanceOf 105 = .ok (.iadd, 1) := by decide +kernel
theorem dX8_resonanceOf_106 : decode cX8_resonanceOf 106 = .ok (.istore_n 3, 1) := by decide +kernel
theorem dX8_resonanceOf_107 : decode cX8_resonanceOf 107 = .ok (.iinc 6 1, 3) := by decide +kernel
theorem dX8_resonanceOf_110 : decode cX8_resonanceOf 110 = .ok (.goto (-91), 3) := by decide +kernel
theorem dX8_resonanceOf_113 : decode cX8_resonanceOf 113 = .ok (.iinc 5 1, 3) := by decide +kernel
theorem dX8_resonanceOf_116 : decode cX8_resonanceOf 116 = .ok (.goto (-107), 3) := by decide +kernel
theorem dX8_resonanceOf_119 : decode cX8_resonanceOf 119 = .ok (.iload_n 3, 1) := by decide +kernel
theorem dX8_resonanceOf_120 : decode cX8_resonanceOf 120 = .ok (.ireturn, 1) := by decide +kernel
theorem dX8_resonance_0 : decode cX8_resonance 0 = .ok (.aload_n 0, 1) := by decide +kernel
theorem dX8_resonance_1 : decode cX8_resonance 1 = .ok (.iload_n 1, 1) := by decide +kernel
theorem dX8_resonance_2 : decode cX8_resonance 2 = .ok (.iconst 0, 1) := by decide +kernel
theorem dX8_resonance_3 : decode cX8_resonance 3 = .ok (.aload_n 0, 1) := by decide +kernel
theorem dX8_resonance_4 : decode cX8_resonance 4 = .ok (.getfield 95, 3) := by decide +kernel
theorem dX8_resonance_7 : decode cX8_resonance 7 = .ok (.iconst 1, 1) := by decide +kernel
theorem dX8_resonance_8 : decode cX8_resonance 8 = .ok (.isub, 1) := by decide +kernel
theorem dX8_resonance_9 : decode cX8_resonance 9 = .ok (.invokestatic 72, 3) := by decide +kernel
theorem dX8_resonance_12 : decode cX8_resonance 12 = .ok (.ifCond .ne 7, 3) := by decide +kernel
theorem dX8_resonance_15 : decode cX8_resonance 15 = .ok (.iconst 1, 1) := by decide +kernel
theorem dX8_resonance_16 : decode cX8_resonance 16 = .ok (.goto 15, 3) := by decide +kernel
theorem dX8_resonance_19 : decode cX8_resonance 19 = .ok (.iload_n 2, 1) := by decide +kernel
theorem dX8_resonance_20 : decode cX8_resonance 20 = .ok (.invokestatic 76, 3) := by decide +kernel
theorem dX8_resonance_23 : decode cX8_resonance 23 = .ok (.ifCond .ne 7, 3) := by decide +kernel
theorem dX8_resonance_26 : decode cX8_resonance 26 = .ok (.iconst 2, 1) := by decide +kernel
theorem dX8_resonance_27 : decode cX8_resonance 27 = .ok (.goto 4, 3) := by decide +kernel
theorem dX8_resonance_30 : decode cX8_resonance 30 = .ok (.iconst 0, 1) := by decide +kernel
theorem dX8_resonance_31 : decode cX8_resonance 31 = .ok (.putfield 69, 3) := by decide +kernel
theorem dX8_resonance_34 : decode cX8_resonance 34 = .ok (.aload_n 0, 1) := by decide +kernel
theorem dX8_resonance_35 : decode cX8_resonance 35 = .ok (.getfield 69, 3) := by decide +kernel
theorem dX8_resonance_38 : decode cX8_resonance 38 = .ok (.ifCond .le 7, 3) := by decide +kernel
theorem dX8_resonance_41 : decode cX8_resonance 41 = .ok (.iconst 0, 1) := by decide +kernel
theorem dX8_resonance_42 : decode cX8_resonance 42 = .ok (.goto 9, 3) := by decide +kernel
theorem dX8_resonance_45 : decode cX8_resonance 45 = .ok (.aload_n 0, 1) := by decide +kernel
theorem dX8_resonance_46 : decode cX8_resonance 46 = .ok (.iload_n 1, 1) := by decide +kernel
theorem dX8_resonance_47 : decode cX8_resonance 47 = .ok (.iload_n 2, 1) := by decide +kernel
theorem dX8_resonance_48 : decode cX8_resonance 48 = .ok (.invokevirtual 202, 3) := by decide +kernel
theorem dX8_resonance_51 : decode cX8_resonance 51 = .ok (.ireturn, 1) := by decide +kernel
theorem dX8_isEmpty_0 : decode cX8_isEmpty 0 = .ok (.iconst 1, 1) := by decide +kernel
theorem dX8_isEmpty_1 : decode cX8_isEmpty 1 = .ok (.istore_n 2, 1) := by decide +kernel
theorem dX8_isEmpty_2 : decode cX8_isEmpty 2 = .ok (.iconst 0, 1) := by decide +kernel
theorem dX8_isEmpty_3 : decode cX8_isEmpty 3 = .ok (.istore_n 3, 1) := by decide +kernel
theorem dX8_isEmpty_4 : decode cX8_isEmpty 4 = .ok (.iload_n 3, 1) := by decide +kernel
theorem dX8_isEmpty_5 : decode cX8_isEmpty 5 = .ok (.aload_n 0, 1) := by decide +kernel
theorem dX8_isEmpty_6 : decode cX8_isEmpty 6 = .ok (.getfield 81, 3) := by decide +kernel
theorem dX8_isEmpty_9 : decode cX8_isEmpty 9 = .ok (.if_icmp .ge 38, 3) := by decide +kernel
theorem dX8_isEmpty_12 : decode cX8_isEmpty 12 = .ok (.iload_n 2, 1) := by decide +kernel
theorem dX8_isEmpty_13 : decode cX8_isEmpty 13 = .ok (.ifCond .eq 26, 3) := by decide +kernel
theorem dX8_isEmpty_16 : decode cX8_isEmpty 16 = .ok (.aload_n 0, 1) := by decide +kernel
theorem dX8_isEmpty_17 : decode cX8_isEmpty 17 = .ok (.getfield 35, 3) := by decide +kernel
theorem dX8_isEmpty_20 : decode cX8_isEmpty 20 = .ok (.iload_n 3, 1) := by decide +kernel
theorem dX8_isEmpty_21 : decode cX8_isEmpty 21 = .ok (.baload, 1) := by decide +kernel
theorem dX8_isEmpty_22 : decode cX8_isEmpty 22 = .ok (.ifCond .eq 13, 3) := by decide +kernel
theorem dX8_isEmpty_25 : decode cX8_isEmpty 25 = .ok (.aload_n 0, 1) := by decide +kernel
theorem dX8_isEmpty_26 : decode cX8_isEmpty 26 = .ok (.getfield 19, 3) := by decide +kernel
theorem dX8_isEmpty_29 : decode cX8_isEmpty 29 = .ok (.iload_n 3, 1) := by decide +kernel
theorem dX8_isEmpty_30 : decode cX8_isEmpty 30 = .ok (.iaload, 1) := by decide +kernel
theorem dX8_isEmpty_31 : decode cX8_isEmpty 31 = .ok (.iload_n 1, 1) := by decide +kernel
theorem dX8_isEmpty_32 : decode cX8_isEmpty 32 = .ok (.if_icmp .eq 7, 3) := by decide +kernel
theorem dX8_isEmpty_35 : decode cX8_isEmpty 35 = .ok (.iconst 1, 1) := by decide +kernel
theorem dX8_isEmpty_36 : decode cX8_isEmpty 36 = .ok (.goto 4, 3) := by decide +kernel
theorem dX8_isEmpty_39 : decode cX8_isEmpty 39 = .ok (.iconst 0, 1) := by decide +kernel
theorem dX8_isEmpty_40 : decode cX8_isEmpty 40 = .ok (.istore_n 2, 1) := by decide +kernel
theorem dX8_isEmpty_41 : decode cX8_isEmpty 41 = .ok (.iinc 3 1, 3) := by decide +kernel
theorem dX8_isEmpty_44 : decode cX8_isEmpty 44 = .ok (.goto (-40), 3) := by decide +kernel
theorem dX8_isEmpty_47 : decode cX8_isEmpty 47 = .ok (.iload_n 2, 1) := by decide +kernel
theorem dX8_isEmpty_48 : decode cX8_isEmpty 48 = .ok (.ireturn, 1) := by decide +kernel
theorem dX8_gapFrom_0 : decode cX8_gapFrom 0 = .ok (.iload_n 1, 1) := by decide +kernel
theorem dX8_gapFrom_1 : decode cX8_gapFrom 1 = .ok (.iconst 1, 1) := by decide +kernel
theorem dX8_gapFrom_2 : decode cX8_gapFrom 2 = .ok (.isub, 1) := by decide +kernel
theorem dX8_gapFrom_3 : decode cX8_gapFrom 3 = .ok (.istore_n 2, 1) := by decide +kernel
theorem dX8_gapFrom_4 : decode cX8_gapFrom 4 = .ok (.iload_n 2, 1) := by decide +kernel
theorem dX8_gapFrom_5 : decode cX8_gapFrom 5 = .ok (.bipush 64, 2) := by decide +kernel
theorem dX8_gapFrom_7 : decode cX8_gapFrom 7 = .ok (.if_icmp .ge 21, 3) := by decide +kernel
theorem dX8_gapFrom_10 : decode cX8_gapFrom 10 = .ok (.iload_n 2, 1) := by decide +kernel
theorem dX8_gapFrom_11 : decode cX8_gapFrom 11 = .ok (.ifCond .lt 11, 3) := by decide +kernel
theorem dX8_gapFrom_14 : decode cX8_gapFrom 14 = .ok (.aload_n 0, 1) := by decide +kernel
theorem dX8_gapFrom_15 : decode cX8_gapFrom 15 = .ok (.iload_n 2, 1) := by decide +kernel
theorem dX8_gapFrom_16 : decode cX8_gapFrom 16 = .ok (.invokevirtual 205, 3) := by decide +kernel
theorem dX8_gapFrom_19 : decode cX8_gapFrom 19 = .ok (.ifCond .eq 9, 3) := by decide +kernel
theorem dX8_gapFrom_22 : decode cX8_gapFrom 22 = .ok (.iinc 2 1, 3) := by decide +kernel
theorem dX8_gapFrom_25 : decode cX8_gapFrom 25 = .ok (.goto (-21), 3) := by decide +kernel
theorem dX8_gapFrom_28 : decode cX8_gapFrom 28 = .ok (.iconst (-1), 1) := by decide +kernel
theorem dX8_gapFrom_29 : decode cX8_gapFrom 29 = .ok (.istore_n 3, 1) := by decide +kernel
theorem dX8_gapFrom_30 : decode cX8_gapFrom 30 = .ok (.iload_n 2, 1) := by decide +kernel
theorem dX8_gapFrom_31 : decode cX8_gapFrom 31 = .ok (.iconst 1, 1) := by decide +kernel
theorem dX8_gapFrom_32 : decode cX8_gapFrom 32 = .ok (.iadd, 1) := by decide +kernel
theorem dX8_gapFrom_33 : decode cX8_gapFrom 33 = .ok (.istore 4, 2) := by decide +kernel
theorem dX8_gapFrom_35 : decode cX8_gapFrom 35 = .ok (.iload 4, 2) := by decide +kernel
theorem dX8_gapFrom_37 : decode cX8_gapFrom 37 = .ok (.bipush 64, 2) := by decide +kernel
theorem dX8_gapFrom_39 : decode cX8_gapFrom 39 = .ok (.if_icmp .ge 42, 3) := by decide +kernel
theorem dX8_gapFrom_42 : decode cX8_gapFrom 42 = .ok (.iload_n 3, 1) := by decide +kernel
theorem dX8_gapFrom_43 : decode cX8_gapFrom 43 = .ok (.iconst (-1), 1) := by decide +kernel
theorem dX8_gapFrom_44 : decode cX8_gapFrom 44 = .ok (.if_icmp .ne 37, 3) := by decide +kernel
theorem dX8_gapFrom_47 : decode cX8_gapFrom 47 = .ok (.aload_n 0, 1) := by decide +kernel
theorem dX8_gapFrom_48 : decode cX8_gapFrom 48 = .ok (.iload 4, 2) := by decide +kernel
theorem dX8_gapFrom_50 : decode cX8_gapFrom 50 = .ok (.invokevirtual 205, 3) := by decide +kernel
theorem dX8_gapFrom_53 : decode cX8_gapFrom 53 = .ok (.ifCond .ne 22, 3) := by decide +kernel
theorem dX8_gapFrom_56 : decode cX8_gapFrom 56 = .ok (.iload 4, 2) := by decide +kernel
theorem dX8_gapFrom_58 : decode cX8_gapFrom 58 = .ok (.iload_n 2, 1) := by decide +kernel
theorem dX8_gapFrom_59 : decode cX8_gapFrom 59 = .ok (.isub, 1) := by decide +kernel
theorem dX8_gapFrom_60 : decode cX8_gapFrom 60 = .ok (.iconst 2, 1) := by decide +kernel
theorem dX8_gapFrom_61 : decode cX8_gapFrom 61 = .ok (.if_icmp .le 9, 3) := by decide +kernel
theorem dX8_gapFrom_64 : decode cX8_gapFrom 64 = .ok (.iload_n 2, 1) := by decide +kernel
theorem dX8_gapFrom_65 : decode cX8_gapFrom 65 = .ok (.iconst 1, 1) := by decide +kernel
theorem dX8_gapFrom_66 : decode cX8_gapFrom 66 = .ok (.iadd, 1) := by decide +kernel
theorem dX8_gapFrom_67 : decode cX8_gapFrom 67 = .ok (.goto 4, 3) := by decide +kernel
theorem dX8_gapFrom_70 : decode cX8_gapFrom 70 = .ok (.iconst (-1), 1) := by decide +kernel
theorem dX8_gapFrom_71 : decode cX8_gapFrom 71 = .ok (.istore_n 3, 1) := by decide +kernel
theorem dX8_gapFrom_72 : decode cX8_gapFrom 72 = .ok (.iload 4, 2) := by decide +kernel
theorem dX8_gapFrom_74 : decode cX8_gapFrom 74 = .ok (.istore_n 2, 1) := by decide +kernel
theorem dX8_gapFrom_75 : decode cX8_gapFrom 75 = .ok (.iinc 4 1, 3) := by decide +kernel
theorem dX8_gapFrom_78 : decode cX8_gapFrom 78 = .ok (.goto (-43), 3) := by decide +kernel
theorem dX8_gapFrom_81 : decode cX8_gapFrom 81 = .ok (.iload_n 3, 1) := by decide +kernel
theorem dX8_gapFrom_82 : decode cX8_gapFrom 82 = .ok (.ireturn, 1) := by decide +kernel
theorem dX8_endOf_0 : decode cX8_endOf 0 = .ok (.iload_n 1, 1) := by decide +kernel
theorem dX8_endOf_1 : decode cX8_endOf 1 = .ok (.istore_n 2, 1) := by decide +kernel
theorem dX8_endOf_2 : decode cX8_endOf 2 = .ok (.aload_n 0, 1) := by decide +kernel
theorem dX8_endOf_3 : decode cX8_endOf 3 = .ok (.iload_n 2, 1) := by decide +kernel
theorem dX8_endOf_4 : decode cX8_endOf 4 = .ok (.iconst 1, 1) := by decide +kernel
theorem dX8_endOf_5 : decode cX8_endOf 5 = .ok (.iadd, 1) := by decide +kernel
theorem dX8_endOf_6 : decode cX8_endOf 6 = .ok (.invokevirtual 205, 3) := by decide +kernel
theorem dX8_endOf_9 : decode cX8_endOf 9 = .ok (.ifCond .eq 9, 3) := by decide +kernel
theorem dX8_endOf_12 : decode cX8_endOf 12 = .ok (.iinc 2 1, 3) := by decide +kernel
theorem dX8_endOf_15 : decode cX8_endOf 15 = .ok (.goto (-13), 3) := by decide +kernel
theorem dX8_endOf_18 : decode cX8_endOf 18 = .ok (.iload_n 2, 1) := by decide +kernel
theorem dX8_endOf_19 : decode cX8_endOf 19 = .ok (.ireturn, 1) := by decide +kernel
theorem dX8_gapAt_0 : decode cX8_gapAt 0 = .ok (.aload_n 0, 1) := by decide +kernel
theorem dX8_gapAt_1 : decode cX8_gapAt 1 = .ok (.iconst 0, 1) := by decide +kernel
theorem dX8_gapAt_2 : decode cX8_gapAt 2 = .ok (.invokevirtual 208, 3) := by decide +kernel
theorem dX8_gapAt_5 : decode cX8_gapAt 5 = .ok (.istore_n 2, 1) := by decide +kernel
theorem dX8_gapAt_6 : decode cX8_gapAt 6 = .ok (.iconst 0, 1) := by decide +kernel
theorem dX8_gapAt_7 : decode cX8_gapAt 7 = .ok (.istore_n 3, 1) := by decide +kernel
theorem dX8_gapAt_8 : decode cX8_gapAt 8 = .ok (.iload_n 3, 1) := by decide +kernel
theorem dX8_gapAt_9 : decode cX8_gapAt 9 = .ok (.iload_n 1, 1) := by decide +kernel
theorem dX8_gapAt_10 : decode cX8_gapAt 10 = .ok (.if_icmp .ge 26, 3) := by decide +kernel
theorem dX8_gapAt_13 : decode cX8_gapAt 13 = .ok (.iload_n 2, 1) := by decide +kernel
theorem dX8_gapAt_14 : decode cX8_gapAt 14 = .ok (.iconst (-1), 1) := by decide +kernel
theorem dX8_gapAt_15 : decode cX8_gapAt 15 = .ok (.if_icmp .eq 21, 3) := by decide +kernel
theorem dX8_gapAt_18 : decode cX8_gapAt 18 = .ok (.aload_n 0, 1) := by decide +kernel
theorem dX8_gapAt_19 : decode cX8_gapAt 19 = .ok (.aload_n 0, 1) := by decide +kernel
theorem dX8_gapAt_20 : decode cX8_gapAt 20 = .ok (.iload_n 2, 1) := by decide +kernel
theorem dX8_gapAt_21 : decode cX8_gapAt 21 = .ok (.invokevirtual 211, 3) := by decide +kernel
theorem dX8_gapAt_24 : decode cX8_gapAt 24 = .ok (.iconst 2, 1) := by decide +kernel
theorem dX8_gapAt_25 : decode cX8_gapAt 25 = .ok (.iadd, 1) := by decide +kernel
theorem dX8_gapAt_26 : decode cX8_gapAt 26 = .ok (.invokevirtual 208, 3) := by decide +kernel
theorem dX8_gapAt_29 : decode cX8_gapAt 29 = .ok (.istore_n 2, 1) := by decide +kernel
theorem dX8_gapAt_30 : decode cX8_gapAt 30 = .ok (.iinc 3 1, 3) := by decide +kernel
theorem dX8_gapAt_33 : decode cX8_gapAt 33 = .ok (.goto (-25), 3) := by decide +kernel
theorem dX8_gapAt_36 : decode cX8_gapAt 36 = .ok (.iload_n 2, 1) := by decide +kernel
theorem dX8_gapAt_37 : decode cX8_gapAt 37 = .ok (.ireturn, 1) := by decide +kernel
theorem dX8_isNear_0 : decode cX8_isNear 0 = .ok (.aload_n 0, 1) := by decide +kernel
theorem dX8_isNear_1 : decode cX8_isNear 1 = .ok (.iload_n 1, 1) := by decide +kernel
theorem dX8_isNear_2 : decode cX8_isNear 2 = .ok (.iload_n 2, 1) := by decide +kernel
theorem dX8_isNear_3 : decode cX8_isNear 3 = .ok (.invokevirtual 202, 3) := by decide +kernel
theorem dX8_isNear_6 : decode cX8_isNear 6 = .ok (.istore_n 3, 1) := by decide +kernel
theorem dX8_isNear_7 : decode cX8_isNear 7 = .ok (.iload_n 3, 1) := by decide +kernel
theorem dX8_isNear_8 : decode cX8_isNear 8 = .ok (.iconst (-1), 1) := by decide +kernel
theorem dX8_isNear_9 : decode cX8_isNear 9 = .ok (.if_icmp .eq 23, 3) := by decide +kernel
theorem dX8_isNear_12 : decode cX8_isNear 12 = .ok (.iload_n 3, 1) := by decide +kernel
theorem dX8_isNear_13 : decode cX8_isNear 13 = .ok (.bipush 10, 2) := by decide +kernel
theorem dX8_isNear_15 : decode cX8_isNear 15 = .ok (.idiv, 1) := by decide +kernel
theorem dX8_isNear_16 : decode cX8_isNear 16 = .ok (.iload_n 3, 1) := by decide +kernel
theorem dX8_isNear_17 : decode cX8_isNear 17 = .ok (.bipush 10, 2) := by decide +kernel
theorem dX8_isNear_19 : decode cX8_isNear 19 = .ok (.irem, 1) := by decide +kernel
theorem dX8_isNear_20 : decode cX8_isNear 20 = .ok (.isub, 1) := by decide +kernel
theorem dX8_isNear_21 : decode cX8_isNear 21 = .ok (.invokestatic 102, 3) := by decide +kernel
theorem dX8_isNear_24 : decode cX8_isNear 24 = .ok (.iconst 2, 1) := by decide +kernel
theorem dX8_isNear_25 : decode cX8_isNear 25 = .ok (.if_icmp .gt 7, 3) := by decide +kernel
theorem dX8_isNear_28 : decode cX8_isNear 28 = .ok (.iconst 1, 1) := by decide +kernel
theorem dX8_isNear_29 : decode cX8_isNear 29 = .ok (.goto 4, 3) := by decide +kernel
theorem dX8_isNear_32 : decode cX8_isNear 32 = .ok (.iconst 0, 1) := by decide +kernel
theorem dX8_isNear_33 : decode cX8_isNear 33 = .ok (.ireturn, 1) := by decide +kernel
theorem dX8_keeper_0 : decode cX8_keeper 0 = .ok (.iconst (-1), 1) := by decide +kernel
theorem dX8_keeper_1 : decode cX8_keeper 1 = .ok (.istore_n 3, 1) := by decide +kernel
theorem dX8_keeper_2 : decode cX8_keeper 2 = .ok (.aload_n 0, 1) := by decide +kernel
theorem dX8_keeper_3 : decode cX8_keeper 3 = .ok (.getfield 95, 3) := by decide +kernel
theorem dX8_keeper_6 : decode cX8_keeper 6 = .ok (.iconst 1, 1) := by decide +kernel
theorem dX8_keeper_7 : decode cX8_keeper 7 = .ok (.isub, 1) := by decide +kernel
theorem dX8_keeper_8 : decode cX8_keeper 8 = .ok (.istore 4, 2) := by decide +kernel
theorem dX8_keeper_10 : decode cX8_keeper 10 = .ok (.iload 4, 2) := by decide +kernel
theorem dX8_keeper_12 : decode cX8_keeper 12 = .ok (.ifCond .lt 40, 3) := by decide +kernel
theorem dX8_keeper_15 : decode cX8_keeper 15 = .ok (.aload_n 0, 1) := by decide +kernel
theorem dX8_keeper_16 : decode cX8_keeper 16 = .ok (.iload 4, 2) := by decide +kernel
theorem dX8_keeper_18 : decode cX8_keeper 18 = .ok (.iload_n 1, 1) := by decide +kernel
theorem dX8_keeper_19 : decode cX8_keeper 19 = .ok (.iconst 1, 1) := by decide +kernel
theorem dX8_keeper_20 : decode cX8_keeper 20 = .ok (.isub, 1) := by decide +kernel
theorem dX8_keeper_21 : decode cX8_keeper 21 = .ok (.invokevirtual 214, 3) := by decide +kernel
theorem dX8_keeper_24 : decode cX8_keeper 24 = .ok (.ifCond .ne 15, 3) := by decide +kernel
theorem dX8_keeper_27 : decode cX8_keeper 27 = .ok (.aload_n 0, 1) := by decide +kernel
theorem dX8_keeper_28 : decode cX8_keeper 28 = .ok (.iload 4, 2) := by decide +kernel
theorem dX8_keeper_30 : decode cX8_keeper 30 = .ok (.iload_n 2, 1) := by decide +kernel
theorem dX8_keeper_31 : decode cX8_keeper 31 = .ok (.iconst 1, 1) := by decide +kernel
theorem dX8_keeper_32 : decode cX8_keeper 32 = .ok (.iadd, 1) := by decide +kernel
theorem dX8_keeper_33 : decode cX8_keeper 33 = .ok (.invokevirtual 214, 3) := by decide +kernel
theorem dX8_keeper_36 : decode cX8_keeper 36 = .ok (.ifCond .eq 8, 3) := by decide +kernel
theorem dX8_keeper_39 : decode cX8_keeper 39 = .ok (.iload 4, 2) := by decide +kernel
theorem dX8_keeper_41 : decode cX8_keeper 41 = .ok (.goto 4, 3) := by decide +kernel
theorem dX8_keeper_44 : decode cX8_keeper 44 = .ok (.iload_n 3, 1) := by decide +kernel
theorem dX8_keeper_45 : decode cX8_keeper 45 = .ok (.istore_n 3, 1) := by decide +kernel
theorem dX8_keeper_46 : decode cX8_keeper 46 = .ok (.iinc 4 (-1), 3) := by decide +kernel
theorem dX8_keeper_49 : decode cX8_keeper 49 = .ok (.goto (-39), 3) := by decide +kernel
theorem dX8_keeper_52 : decode cX8_keeper 52 = .ok (.iconst (-1), 1) := by decide +kernel
theorem dX8_keeper_53 : decode cX8_keeper 53 = .ok (.istore 4, 2) := by decide +kernel
theorem dX8_keeper_55 : decode cX8_keeper 55 = .ok (.aload_n 0, 1) := by decide +kernel
theorem dX8_keeper_56 : decode cX8_keeper 56 = .ok (.getfield 95, 3) := by decide +kernel
theorem dX8_keeper_59 : decode cX8_keeper 59 = .ok (.iconst 1, 1) := by decide +kernel
theorem dX8_keeper_60 : decode cX8_keeper 60 = .ok (.isub, 1) := by decide +kernel
theorem dX8_keeper_61 : decode cX8_keeper 61 = .ok (.istore 5, 2) := by decide +kernel
theorem dX8_keeper_63 : decode cX8_keeper 63 = .ok (.iload 5, 2) := by decide +kernel
theorem dX8_keeper_65 : decode cX8_keeper 65 = .ok (.ifCond .lt 33, 3) := by decide +kernel
theorem dX8_keeper_68 : decode cX8_keeper 68 = .ok (.aload_n 0, 1) := by decide +kernel
theorem dX8_keeper_69 : decode cX8_keeper 69 = .ok (.getfield 42, 3) := by decide +kernel
theorem dX8_keeper_72 : decode cX8_keeper 72 = .ok (.iload 5, 2) := by decide +kernel
theorem dX8_keeper_74 : decode cX8_keeper 74 = .ok (.iaload, 1) := by decide +kernel
theorem dX8_keeper_75 : decode cX8_keeper 75 = .ok (.iload_n 1, 1) := by decide +kernel
theorem dX8_keeper_76 : decode cX8_keeper 76 = .ok (.iload_n 2, 1) := by decide +kernel
theorem dX8_keeper_77 : decode cX8_keeper 77 = .ok (.invokestatic 72, 3) := by decide +kernel
theorem dX8_keeper_80 : decode cX8_keeper 80 = .ok (.ifCond .eq 8, 3) := by decide +kernel
theorem dX8_keeper_83 : decode cX8_keeper 83 = .ok (.iload 5, 2) := by decide +kernel
theorem dX8_keeper_85 : decode cX8_keeper 85 = .ok (.goto 5, 3) := by decide +kernel
theorem dX8_keeper_88 : decode cX8_keeper 88 = .ok (.iload 4, 2) := by decide +kernel
theorem dX8_keeper_90 : decode cX8_keeper 90 = .ok (.istore 4, 2) := by decide +kernel
theorem dX8_keeper_92 : decode cX8_keeper 92 = .ok (.iinc 5 (-1), 3) := by decide +kernel
theorem dX8_keeper_95 : decode cX8_keeper 95 = .ok (.goto (-32), 3) := by decide +kernel
theorem dX8_keeper_98 : decode cX8_keeper 98 = .ok (.iload 4, 2) := by decide +kernel
theorem dX8_keeper_100 : decode cX8_keeper 100 = .ok (.iconst (-1), 1) := by decide +kernel
theorem dX8_keeper_101 : decode cX8_keeper 101 = .ok (.if_icmp .ne 7, 3) := by decide +kernel
theorem dX8_keeper_104 : decode cX8_keeper 104 = .ok (.iload_n 3, 1) := by decide +kernel
theorem dX8_keeper_105 : decode cX8_keeper 105 = .ok (.goto 5, 3) := by decide +kernel
theorem dX8_keeper_108 : decode cX8_keeper 108 = .ok (.iload 4, 2) := by decide +kernel
theorem dX8_keeper_110 : decode cX8_keeper 110 = .ok (.ireturn, 1) := by decide +kernel
theorem dX8_gap_0 : decode cX8_gap 0 = .ok (.iload_n 1, 1) := by decide +kernel
theorem dX8_gap_1 : decode cX8_gap 1 = .ok (.ifCond .ge 7, 3) := by decide +kernel
theorem dX8_gap_4 : decode cX8_gap 4 = .ok (.iconst (-1), 1) := by decide +kernel
theorem dX8_gap_5 : decode cX8_gap 5 = .ok (.goto 8, 3) := by decide +kernel
theorem dX8_gap_8 : decode cX8_gap 8 = .ok (.aload_n 0, 1) := by decide +kernel
theorem dX8_gap_9 : decode cX8_gap 9 = .ok (.iload_n 1, 1) := by decide +kernel
theorem dX8_gap_10 : decode cX8_gap 10 = .ok (.invokevirtual 217, 3) := by decide +kernel
theorem dX8_gap_13 : decode cX8_gap 13 = .ok (.istore_n 3, 1) := by decide +kernel
theorem dX8_gap_14 : decode cX8_gap 14 = .ok (.aload_n 0, 1) := by decide +kernel
theorem dX8_gap_15 : decode cX8_gap 15 = .ok (.iload_n 3, 1) := by decide +kernel
theorem dX8_gap_16 : decode cX8_gap 16 = .ok (.iconst (-1), 1) := by decide +kernel
theorem dX8_gap_17 : decode cX8_gap 17 = .ok (.if_icmp .ne 7, 3) := by decide +kernel
theorem dX8_gap_20 : decode cX8_gap 20 = .ok (.iconst 1, 1) := by decide +kernel
theorem dX8_gap_21 : decode cX8_gap 21 = .ok (.goto 17, 3) := by decide +kernel
theorem dX8_gap_24 : decode cX8_gap 24 = .ok (.iload_n 2, 1) := by decide +kernel
theorem dX8_gap_25 : decode cX8_gap 25 = .ok (.iconst 0, 1) := by decide +kernel
theorem dX8_gap_26 : decode cX8_gap 26 = .ok (.iconst 2, 1) := by decide +kernel
theorem dX8_gap_27 : decode cX8_gap 27 = .ok (.invokestatic 72, 3) := by decide +kernel
theorem dX8_gap_30 : decode cX8_gap 30 = .ok (.ifCond .ne 7, 3) := by decide +kernel
theorem dX8_gap_33 : decode cX8_gap 33 = .ok (.iconst 2, 1) := by decide +kernel
theorem dX8_gap_34 : decode cX8_gap 34 = .ok (.goto 4, 3) := by decide +kernel
theorem dX8_gap_37 : decode cX8_gap 37 = .ok (.iconst 0, 1) := by decide +kernel
theorem dX8_gap_38 : decode cX8_gap 38 = .ok (.putfield 69, 3) := by decide +kernel
theorem dX8_gap_41 : decode cX8_gap 41 = .ok (.aload_n 0, 1) := by decide +kernel
theorem dX8_gap_42 : decode cX8_gap 42 = .ok (.getfield 69, 3) := by decide +kernel
theorem dX8_gap_45 : decode cX8_gap 45 = .ok (.ifCond .le 5, 3) := by decide +kernel
theorem dX8_gap_48 : decode cX8_gap 48 = .ok (.iconst 0, 1) := by decide +kernel
theorem dX8_gap_49 : decode cX8_gap 49 = .ok (.ireturn, 1) := by decide +kernel
theorem dX8_gap_50 : decode cX8_gap 50 = .ok (.aload_n 0, 1) := by decide +kernel
theorem dX8_gap_51 : decode cX8_gap 51 = .ok (.iload_n 3, 1) := by decide +kernel
theorem dX8_gap_52 : decode cX8_gap 52 = .ok (.invokevirtual 211, 3) := by decide +kernel
theorem dX8_gap_55 : decode cX8_gap 55 = .ok (.istore 4, 2) := by decide +kernel
theorem dX8_gap_57 : decode cX8_gap 57 = .ok (.iload_n 2, 1) := by decide +kernel
theorem dX8_gap_58 : decode cX8_gap 58 = .ok (.ifCond .ne 7, 3) := by decide +kernel
theorem dX8_gap_61 : decode cX8_gap 61 = .ok (.iload_n 3, 1) := by decide +kernel
theorem dX8_gap_62 : decode cX8_gap 62 = .ok (.goto 20, 3) := by decide +kernel
theorem dX8_gap_65 : decode cX8_gap 65 = .ok (.iload_n 2, 1) := by decide +kernel
theorem dX8_gap_66 : decode cX8_gap 66 = .ok (.iconst 1, 1) := by decide +kernel
theorem dX8_gap_67 : decode cX8_gap 67 = .ok (.if_icmp .ne 8, 3) := by decide +kernel
theorem dX8_gap_70 : decode cX8_gap 70 = .ok (.iload 4, 2) := by decide +kernel
theorem dX8_gap_72 : decode cX8_gap 72 = .ok (.goto 10, 3) := by decide +kernel
theorem dX8_gap_75 : decode cX8_gap 75 = .ok (.aload_n 0, 1) := by decide +kernel
theorem dX8_gap_76 : decode cX8_gap 76 = .ok (.iload_n 3, 1) := by decide +kernel
theorem dX8_gap_77 : decode cX8_gap 77 = .ok (.iload 4, 2) := by decide +kernel
theorem dX8_gap_79 : decode cX8_gap 79 = .ok (.invokevirtual 220, 3) := by decide +kernel
theorem dX8_gap_82 : decode cX8_gap 82 = .ok (.ireturn, 1) := by decide +kernel
theorem dX8_gaps_0 : decode cX8_gaps 0 = .ok (.aload_n 0, 1) := by decide +kernel
theorem dX8_gaps_1 : decode cX8_gaps 1 = .ok (.iconst 0, 1) := by decide +kernel
theorem dX8_gaps_2 : decode cX8_gaps 2 = .ok (.putfield 69, 3) := by decide +kernel
theorem dX8_gaps_5 : decode cX8_gaps 5 = .ok (.iconst 0, 1) := by decide +kernel
theorem dX8_gaps_6 : decode cX8_gaps 6 = .ok (.istore_n 1, 1) := by decide +kernel
theorem dX8_gaps_7 : decode cX8_gaps 7 = .ok (.aload_n 0, 1) := by decide +kernel
theorem dX8_gaps_8 : decode cX8_gaps 8 = .ok (.iconst 0, 1) := by decide +kernel
theorem dX8_gaps_9 : decode cX8_gaps 9 = .ok (.invokevirtual 208, 3) := by decide +kernel
theorem dX8_gaps_12 : decode cX8_gaps 12 = .ok (.istore_n 2, 1) := by decide +kernel
theorem dX8_gaps_13 : decode cX8_gaps 13 = .ok (.iload_n 2, 1) := by decide +kernel
theorem dX8_gaps_14 : decode cX8_gaps 14 = .ok (.iconst (-1), 1) := by decide +kernel
theorem dX8_gaps_15 : decode cX8_gaps 15 = .ok (.if_icmp .eq 21, 3) := by decide +kernel
theorem dX8_gaps_18 : decode cX8_gaps 18 = .ok (.iinc 1 1, 3) := by decide +kernel
theorem dX8_gaps_21 : decode cX8_gaps 21 = .ok (.aload_n 0, 1) := by decide +kernel
theorem dX8_gaps_22 : decode cX8_gaps 22 = .ok (.aload_n 0, 1) := by decide +kernel
theorem dX8_gaps_23 : decode cX8_gaps 23 = .ok (.iload_n 2, 1) := by decide +kernel
theorem dX8_gaps_24 : decode cX8_gaps 24 = .ok (.invokevirtual 211, 3) := by decide +kernel
theorem dX8_gaps_27 : decode cX8_gaps 27 = .ok (.iconst 2, 1) := by decide +kernel
theorem dX8_gaps_28 : decode cX8_gaps 28 = .ok (.iadd, 1) := by decide +kernel
theorem dX8_gaps_29 : decode cX8_gaps 29 = .ok (.invokevirtual 208, 3) := by decide +kernel
theorem dX8_gaps_32 : decode cX8_gaps 32 = .ok (.istore_n 2, 1) := by decide +kernel
theorem dX8_gaps_33 : decode cX8_gaps 33 = .ok (.goto (-20), 3) := by decide +kernel
theorem dX8_gaps_36 : decode cX8_gaps 36 = .ok (.iload_n 1, 1) := by decide +kernel
theorem dX8_gaps_37 : decode cX8_gaps 37 = .ok (.ireturn, 1) := by decide +kernel
theorem dX8_framed_0 : decode cX8_framed 0 = .ok (.aload_n 0, 1) := by decide +kernel
theorem dX8_framed_1 : decode cX8_framed 1 = .ok (.aload_n 0, 1) := by decide +kernel
theorem dX8_framed_2 : decode cX8_framed 2 = .ok (.iload_n 1, 1) := by decide +kernel
theorem dX8_framed_3 : decode cX8_framed 3 = .ok (.invokevirtual 184, 3) := by decide +kernel
theorem dX8_framed_6 : decode cX8_framed 6 = .ok (.ifCond .ne 7, 3) := by decide +kernel
theorem dX8_framed_9 : decode cX8_framed 9 = .ok (.iconst 1, 1) := by decide +kernel
theorem dX8_framed_10 : decode cX8_framed 10 = .ok (.goto 15, 3) := by decide +kernel
theorem dX8_framed_13 : decode cX8_framed 13 = .ok (.iload_n 2, 1) := by decide +kernel
theorem dX8_framed_14 : decode cX8_framed 14 = .ok (.invokestatic 76, 3) := by decide +kernel
theorem dX8_framed_17 : decode cX8_framed 17 = .ok (.ifCond .ne 7, 3) := by decide +kernel
theorem dX8_framed_20 : decode cX8_framed 20 = .ok (.iconst 2, 1) := by decide +kernel
theorem dX8_framed_21 : decode cX8_framed 21 = .ok (.goto 4, 3) := by decide +kernel
theorem dX8_framed_24 : decode cX8_framed 24 = .ok (.iconst 0, 1) := by decide +kernel
theorem dX8_framed_25 : decode cX8_framed 25 = .ok (.putfield 69, 3) := by decide +kernel
theorem dX8_framed_28 : decode cX8_framed 28 = .ok (.aload_n 0, 1) := by decide +kernel
theorem dX8_framed_29 : decode cX8_framed 29 = .ok (.getfield 69, 3) := by decide +kernel
theorem dX8_framed_32 : decode cX8_framed 32 = .ok (.ifCond .le 7, 3) := by decide +kernel
theorem dX8_framed_35 : decode cX8_framed 35 = .ok (.iconst 0, 1) := by decide +kernel
theorem dX8_framed_36 : decode cX8_framed 36 = .ok (.goto 14, 3) := by decide +kernel
theorem dX8_framed_39 : decode cX8_framed 39 = .ok (.aload_n 0, 1) := by decide +kernel
theorem dX8_framed_40 : decode cX8_framed 40 = .ok (.getfield 51, 3) := by decide +kernel
theorem dX8_framed_43 : decode cX8_framed 43 = .ok (.bipush 64, 2) := by decide +kernel
theorem dX8_framed_45 : decode cX8_framed 45 = .ok (.iload_n 1, 1) := by decide +kernel
theorem dX8_framed_46 : decode cX8_framed 46 = .ok (.imul, 1) := by decide +kernel
theorem dX8_framed_47 : decode cX8_framed 47 = .ok (.iload_n 2, 1) := by decide +kernel
theorem dX8_framed_48 : decode cX8_framed 48 = .ok (.iadd, 1) := by decide +kernel
theorem dX8_framed_49 : decode cX8_framed 49 = .ok (.iaload, 1) := by decide +kernel
theorem dX8_framed_50 : decode cX8_framed 50 = .ok (.ireturn, 1) := by decide +kernel
theorem dX8_holdsBy_0 : decode cX8_holdsBy 0 = .ok (.iconst 1, 1) := by decide +kernel
theorem dX8_holdsBy_1 : decode cX8_holdsBy 1 = .ok (.istore_n 3, 1) := by decide +kernel
theorem dX8_holdsBy_2 : decode cX8_holdsBy 2 = .ok (.aload_n 0, 1) := by decide +kernel
theorem dX8_holdsBy_3 : decode cX8_holdsBy 3 = .ok (.getfield 60, 3) := by decide +kernel
theorem dX8_holdsBy_6 : decode cX8_holdsBy 6 = .ok (.iload_n 1, 1) := by decide +kernel
theorem dX8_holdsBy_7 : decode cX8_holdsBy 7 = .ok (.iaload, 1) := by decide +kernel
theorem dX8_holdsBy_8 : decode cX8_holdsBy 8 = .ok (.istore 4, 2) := by decide +kernel
theorem dX8_holdsBy_10 : decode cX8_holdsBy 10 = .ok (.iload 4, 2) := by decide +kernel
theorem dX8_holdsBy_12 : decode cX8_holdsBy 12 = .ok (.aload_n 0, 1) := by decide +kernel
theorem dX8_holdsBy_13 : decode cX8_holdsBy 13 = .ok (.getfield 63, 3) := by decide +kernel
theorem dX8_holdsBy_16 : decode cX8_holdsBy 16 = .ok (.iload_n 1, 1) := by decide +kernel
theorem dX8_holdsBy_17 : decode cX8_holdsBy 17 = .ok (.iaload, 1) := by decide +kernel
theorem dX8_holdsBy_18 : decode cX8_holdsBy 18 = .ok (.if_icmp .gt 40, 3) := by decide +kernel
theorem dX8_holdsBy_21 : decode cX8_holdsBy 21 = .ok (.iload_n 3, 1) := by decide +kernel
theorem dX8_holdsBy_22 : decode cX8_holdsBy 22 = .ok (.ifCond .eq 28, 3) := by decide +kernel
theorem dX8_holdsBy_25 : decode cX8_holdsBy 25 = .ok (.aload_n 0, 1) := by decide +kernel
theorem dX8_holdsBy_26 : decode cX8_holdsBy 26 = .ok (.getfield 51, 3) := by decide +kernel
theorem dX8_holdsBy_29 : decode cX8_holdsBy 29 = .ok (.bipush 64, 2) := by decide +kernel
theorem dX8_holdsBy_31 : decode cX8_holdsBy 31 = .ok (.iload_n 2, 1) := by decide +kernel
theorem dX8_holdsBy_32 : decode cX8_holdsBy 32 = .ok (.imul, 1) := by decide +kernel
theorem dX8_holdsBy_33 : decode cX8_holdsBy 33 = .ok (.iload 4, 2) := by decide +kernel
theorem dX8_holdsBy_35 : decode cX8_holdsBy 35 = .ok (.iadd, 1) := by decide +kernel
theorem dX8_holdsBy_36 : decode cX8_holdsBy 36 = .ok (.iaload, 1) := by decide +kernel
theorem dX8_holdsBy_37 : decode cX8_holdsBy 37 = .ok (.aload_n 0, 1) := by decide +kernel
theorem dX8_holdsBy_38 : decode cX8_holdsBy 38 = .ok (.getfield 66, 3) := by decide +kernel
theorem dX8_holdsBy_41 : decode cX8_holdsBy 41 = .ok (.iload_n 1, 1) := by decide +kernel
theorem dX8_holdsBy_42 : decode cX8_holdsBy 42 = .ok (.iaload, 1) := by decide +kernel
theorem dX8_holdsBy_43 : decode cX8_holdsBy 43 = .ok (.if_icmp .gt 7, 3) := by decide +kernel
theorem dX8_holdsBy_46 : decode cX8_holdsBy 46 = .ok (.iconst 1, 1) := by decide +kernel
theorem dX8_holdsBy_47 : decode cX8_holdsBy 47 = .ok (.goto 4, 3) := by decide +kernel
theorem dX8_holdsBy_50 : decode cX8_holdsBy 50 = .ok (.iconst 0, 1) := by decide +kernel
theorem dX8_holdsBy_51 : decode cX8_holdsBy 51 = .ok (.istore_n 3, 1) := by decide +kernel
theorem dX8_holdsBy_52 : decode cX8_holdsBy 52 = .ok (.iinc 4 1, 3) := by decide +kernel
theorem dX8_holdsBy_55 : decode cX8_holdsBy 55 = .ok (.goto (-45), 3) := by decide +kernel
theorem dX8_holdsBy_58 : decode cX8_holdsBy 58 = .ok (.iload_n 3, 1) := by decide +kernel
theorem dX8_holdsBy_59 : decode cX8_holdsBy 59 = .ok (.ireturn, 1) := by decide +kernel
theorem dX8_isClaim_0 : decode cX8_isClaim 0 = .ok (.iload_n 1, 1) := by decide +kernel
theorem dX8_isClaim_1 : decode cX8_isClaim 1 = .ok (.iconst 0, 1) := by decide +kernel
theorem dX8_isClaim_2 : decode cX8_isClaim 2 = .ok (.aload_n 0, 1) := by decide +kernel
theorem dX8_isClaim_3 : decode cX8_isClaim 3 = .ok (.getfield 187, 3) := by decide +kernel
theorem dX8_isClaim_6 : decode cX8_isClaim 6 = .ok (.iconst 1, 1) := by decide +kernel
theorem dX8_isClaim_7 : decode cX8_isClaim 7 = .ok (.isub, 1) := by decide +kernel
theorem dX8_isClaim_8 : decode cX8_isClaim 8 = .ok (.invokestatic 72, 3) := by decide +kernel
theorem dX8_isClaim_11 : decode cX8_isClaim 11 = .ok (.ireturn, 1) := by decide +kernel
theorem dX8_holds_0 : decode cX8_holds 0 = .ok (.aload_n 0, 1) := by decide +kernel
theorem dX8_holds_1 : decode cX8_holds 1 = .ok (.aload_n 0, 1) := by decide +kernel
theorem dX8_holds_2 : decode cX8_holds 2 = .ok (.iload_n 1, 1) := by decide +kernel
theorem dX8_holds_3 : decode cX8_holds 3 = .ok (.invokevirtual 223, 3) := by decide +kernel
theorem dX8_holds_6 : decode cX8_holds 6 = .ok (.ifCond .eq 20, 3) := by decide +kernel
theorem dX8_holds_9 : decode cX8_holds 9 = .ok (.iload_n 2, 1) := by decide +kernel
theorem dX8_holds_10 : decode cX8_holds 10 = .ok (.iconst (-1), 1) := by decide +kernel
theorem dX8_holds_11 : decode cX8_holds 11 = .ok (.if_icmp .eq 11, 3) := by decide +kernel
theorem dX8_holds_14 : decode cX8_holds 14 = .ok (.aload_n 0, 1) := by decide +kernel
theorem dX8_holds_15 : decode cX8_holds 15 = .ok (.iload_n 2, 1) := by decide +kernel
theorem dX8_holds_16 : decode cX8_holds 16 = .ok (.invokevirtual 184, 3) := by decide +kernel
theorem dX8_holds_19 : decode cX8_holds 19 = .ok (.ifCond .eq 7, 3) := by decide +kernel
theorem dX8_holds_22 : decode cX8_holds 22 = .ok (.iconst 0, 1) := by decide +kernel
theorem dX8_holds_23 : decode cX8_holds 23 = .ok (.goto 4, 3) := by decide +kernel
theorem dX8_holds_26 : decode cX8_holds 26 = .ok (.iconst 1, 1) := by decide +kernel
theorem dX8_holds_27 : decode cX8_holds 27 = .ok (.putfield 69, 3) := by decide +kernel
theorem dX8_holds_30 : decode cX8_holds 30 = .ok (.aload_n 0, 1) := by decide +kernel
theorem dX8_holds_31 : decode cX8_holds 31 = .ok (.getfield 69, 3) := by decide +kernel
theorem dX8_holds_34 : decode cX8_holds 34 = .ok (.ifCond .ne 30, 3) := by decide +kernel
theorem dX8_holds_37 : decode cX8_holds 37 = .ok (.aload_n 0, 1) := by decide +kernel
theorem dX8_holds_38 : decode cX8_holds 38 = .ok (.iload_n 1, 1) := by decide +kernel
theorem dX8_holds_39 : decode cX8_holds 39 = .ok (.iload_n 2, 1) := by decide +kernel
theorem dX8_holds_40 : decode cX8_holds 40 = .ok (.iconst (-1), 1) := by decide +kernel
theorem dX8_holds_41 : decode cX8_holds 41 = .ok (.if_icmp .ne 12, 3) := by decide +kernel
theorem dX8_holds_44 : decode cX8_holds 44 = .ok (.aload_n 0, 1) := by decide +kernel
theorem dX8_holds_45 : decode cX8_holds 45 = .ok (.getfield 57, 3) := by decide +kernel
theorem dX8_holds_48 : decode cX8_holds 48 = .ok (.iload_n 1, 1) := by decide +kernel
theorem dX8_holds_49 : decode cX8_holds 49 = .ok (.iaload, 1) := by decide +kernel
theorem dX8_holds_50 : decode cX8_holds 50 = .ok (.goto 4, 3) := by decide +kernel
theorem dX8_holds_53 : decode cX8_holds 53 = .ok (.iload_n 2, 1) := by decide +kernel
theorem dX8_holds_54 : decode cX8_holds 54 = .ok (.invokevirtual 226, 3) := by decide +kernel
theorem dX8_holds_57 : decode cX8_holds 57 = .ok (.ifCond .eq 7, 3) := by decide +kernel
theorem dX8_holds_60 : decode cX8_holds 60 = .ok (.iconst 1, 1) := by decide +kernel
theorem dX8_holds_61 : decode cX8_holds 61 = .ok (.goto 4, 3) := by decide +kernel
theorem dX8_holds_64 : decode cX8_holds 64 = .ok (.iconst 0, 1) := by decide +kernel
theorem dX8_holds_65 : decode cX8_holds 65 = .ok (.ireturn, 1) := by decide +kernel
theorem dX8_disputes_0 : decode cX8_disputes 0 = .ok (.aload_n 0, 1) := by decide +kernel
theorem dX8_disputes_1 : decode cX8_disputes 1 = .ok (.aload_n 0, 1) := by decide +kernel
theorem dX8_disputes_2 : decode cX8_disputes 2 = .ok (.iload_n 1, 1) := by decide +kernel
theorem dX8_disputes_3 : decode cX8_disputes 3 = .ok (.invokevirtual 223, 3) := by decide +kernel
theorem dX8_disputes_6 : decode cX8_disputes 6 = .ok (.ifCond .eq 7, 3) := by decide +kernel
theorem dX8_disputes_9 : decode cX8_disputes 9 = .ok (.iconst 0, 1) := by decide +kernel
theorem dX8_disputes_10 : decode cX8_disputes 10 = .ok (.goto 4, 3) := by decide +kernel
theorem dX8_disputes_13 : decode cX8_disputes 13 = .ok (.iconst 1, 1) := by decide +kernel
theorem dX8_disputes_14 : decode cX8_disputes 14 = .ok (.putfield 69, 3) := by decide +kernel
theorem dX8_disputes_17 : decode cX8_disputes 17 = .ok (.iconst 0, 1) := by decide +kernel
theorem dX8_disputes_18 : decode cX8_disputes 18 = .ok (.istore_n 2, 1) := by decide +kernel
theorem dX8_disputes_19 : decode cX8_disputes 19 = .ok (.iconst 0, 1) := by decide +kernel
theorem dX8_disputes_20 : decode cX8_disputes 20 = .ok (.istore_n 3, 1) := by decide +kernel
theorem dX8_disputes_21 : decode cX8_disputes 21 = .ok (.iload_n 3, 1) := by decide +kernel
theorem dX8_disputes_22 : decode cX8_disputes 22 = .ok (.aload_n 0, 1) := by decide +kernel
theorem dX8_disputes_23 : decode cX8_disputes 23 = .ok (.getfield 177, 3) := by decide +kernel
theorem dX8_disputes_26 : decode cX8_disputes 26 = .ok (.if_icmp .ge 53, 3) := by decide +kernel
theorem dX8_disputes_29 : decode cX8_disputes 29 = .ok (.aload_n 0, 1) := by decide +kernel
theorem dX8_disputes_30 : decode cX8_disputes 30 = .ok (.getfield 69, 3) := by decide +kernel
theorem dX8_disputes_33 : decode cX8_disputes 33 = .ok (.ifCond .ne 46, 3) := by decide +kernel
theorem dX8_disputes_36 : decode cX8_disputes 36 = .ok (.iload_n 2, 1) := by decide +kernel
theorem dX8_disputes_37 : decode cX8_disputes 37 = .ok (.aload_n 0, 1) := by decide +kernel
theorem dX8_disputes_38 : decode cX8_disputes 38 = .ok (.getfield 54, 3) := by decide +kernel
theorem dX8_disputes_41 : decode cX8_disputes 41 = .ok (.iload_n 3, 1) := by decide +kernel
theorem dX8_disputes_42 : decode cX8_disputes 42 = .ok (.iaload, 1) := by decide +kernel
theorem dX8_disputes_43 : decode cX8_disputes 43 = .ok (.aload_n 0, 1) := by decide +kernel
theorem dX8_disputes_44 : decode cX8_disputes 44 = .ok (.getfield 54, 3) := by decide +kernel
theorem dX8_disputes_47 : decode cX8_disputes 47 = .ok (.aload_n 0, 1) := by decide +kernel
theorem dX8_disputes_48 : decode cX8_disputes 48 = .ok (.getfield 57, 3) := by decide +kernel
theorem dX8_disputes_51 : decode cX8_disputes 51 = .ok (.iload_n 1, 1) := by decide +kernel
theorem dX8_disputes_52 : decode cX8_disputes 52 = .ok (.iaload, 1) := by decide +kernel
theorem dX8_disputes_53 : decode cX8_disputes 53 = .ok (.iaload, 1) := by decide +kernel
theorem dX8_disputes_54 : decode cX8_disputes 54 = .ok (.if_icmp .lt 16, 3) := by decide +kernel
theorem dX8_disputes_57 : decode cX8_disputes 57 = .ok (.aload_n 0, 1) := by decide +kernel
theorem dX8_disputes_58 : decode cX8_disputes 58 = .ok (.iload_n 1, 1) := by decide +kernel
theorem dX8_disputes_59 : decode cX8_disputes 59 = .ok (.iload_n 3, 1) := by decide +kernel
theorem dX8_disputes_60 : decode cX8_disputes 60 = .ok (.invokevirtual 226, 3) := by decide +kernel
theorem dX8_disputes_63 : decode cX8_disputes 63 = .ok (.ifCond .ne 7, 3) := by decide +kernel
theorem dX8_disputes_66 : decode cX8_disputes 66 = .ok (.iconst 1, 1) := by decide +kernel
theorem dX8_disputes_67 : decode cX8_disputes 67 = .ok (.goto 4, 3) := by decide +kernel
theorem dX8_disputes_70 : decode cX8_disputes 70 = .ok (.iconst 0, 1) := by decide +kernel
theorem dX8_disputes_71 : decode cX8_disputes 71 = .ok (.iadd, 1) := by decide +kernel
theorem dX8_disputes_72 : decode cX8_disputes 72 = .ok (.istore_n 2, 1) := by decide +kernel
theorem dX8_disputes_73 : decode cX8_disputes 73 = .ok (.iinc 3 1, 3) := by decide +kernel
theorem dX8_disputes_76 : decode cX8_disputes 76 = .ok (.goto (-55), 3) := by decide +kernel
theorem dX8_disputes_79 : decode cX8_disputes 79 = .ok (.iload_n 2, 1) := by decide +kernel
theorem dX8_disputes_80 : decode cX8_disputes 80 = .ok (.ireturn, 1) := by decide +kernel
theorem dL_grain_0 : decode cL_grain 0 = .ok (.aload 5, 2) := by decide +kernel
theorem dL_grain_2 : decode cL_grain 2 = .ok (.iconst 0, 1) := by decide +kernel
theorem dL_grain_3 : decode cL_grain 3 = .ok (.aload_n 0, 1) := by decide +kernel
theorem dL_grain_4 : decode cL_grain 4 = .ok (.iload_n 1, 1) := by decide +kernel
theorem dL_grain_5 : decode cL_grain 5 = .ok (.iload_n 2, 1) := by decide +kernel
theorem dL_grain_6 : decode cL_grain 6 = .ok (.iload_n 3, 1) := by decide +kernel
theorem dL_grain_7 : decode cL_grain 7 = .ok (.iload 4, 2) := by decide +kernel
theorem dL_grain_9 : decode cL_grain 9 = .ok (.invokevirtual 7, 3) := by decide +kernel
theorem dL_grain_12 : decode cL_grain 12 = .ok (.i2l, 1) := by decide +kernel
theorem dL_grain_13 : decode cL_grain 13 = .ok (.lastore, 1) := by decide +kernel
theorem dL_grain_14 : decode cL_grain 14 = .ok (.goto 11, 3) := by decide +kernel
theorem dL_grain_17 : decode cL_grain 17 = .ok (.astore 6, 2) := by decide +kernel
theorem dL_grain_19 : decode cL_grain 19 = .ok (.iconst 1, 1) := by decide +kernel
theorem dL_grain_20 : decode cL_grain 20 = .ok (.ireturn, 1) := by decide +kernel
theorem dL_grain_21 : decode cL_grain 21 = .ok (.astore 6, 2) := by decide +kernel
theorem dL_grain_23 : decode cL_grain 23 = .ok (.iconst 2, 1) := by decide +kernel
theorem dL_grain_24 : decode cL_grain 24 = .ok (.ireturn, 1) := by decide +kernel
theorem dL_grain_25 : decode cL_grain 25 = .ok (.iconst 0, 1) := by decide +kernel
theorem dL_grain_26 : decode cL_grain 26 = .ok (.ireturn, 1) := by decide +kernel
theorem dL_moon_0 : decode cL_moon 0 = .ok (.aload 4, 2) := by decide +kernel
theorem dL_moon_2 : decode cL_moon 2 = .ok (.iconst 0, 1) := by decide +kernel
theorem dL_moon_3 : decode cL_moon 3 = .ok (.aload_n 0, 1) := by decide +kernel
theorem dL_moon_4 : decode cL_moon 4 = .ok (.iload_n 1, 1) := by decide +kernel
theorem dL_moon_5 : decode cL_moon 5 = .ok (.iload_n 2, 1) := by decide +kernel
theorem dL_moon_6 : decode cL_moon 6 = .ok (.iload_n 3, 1) := by decide +kernel
theorem dL_moon_7 : decode cL_moon 7 = .ok (.invokevirtual 17, 3) := by decide +kernel
theorem dL_moon_10 : decode cL_moon 10 = .ok (.i2l, 1) := by decide +kernel
theorem dL_moon_11 : decode cL_moon 11 = .ok (.lastore, 1) := by decide +kernel
theorem dL_moon_12 : decode cL_moon 12 = .ok (.goto 11, 3) := by decide +kernel
theorem dL_moon_15 : decode cL_moon 15 = .ok (.astore 5, 2) := by decide +kernel
theorem dL_moon_17 : decode cL_moon 17 = .ok (.iconst 1, 1) := by decide +kernel
theorem dL_moon_18 : decode cL_moon 18 = .ok (.ireturn, 1) := by decide +kernel
theorem dL_moon_19 : decode cL_moon 19 = .ok (.astore 5, 2) := by decide +kernel
theorem dL_moon_21 : decode cL_moon 21 = .ok (.iconst 2, 1) := by decide +kernel
theorem dL_moon_22 : decode cL_moon 22 = .ok (.ireturn, 1) := by decide +kernel
theorem dL_moon_23 : decode cL_moon 23 = .ok (.iconst 0, 1) := by decide +kernel
theorem dL_moon_24 : decode cL_moon 24 = .ok (.ireturn, 1) := by decide +kernel
theorem dL_flatness_0 : decode cL_flatness 0 = .ok (.aload_n 2, 1) := by decide +kernel
theorem dL_flatness_1 : decode cL_flatness 1 = .ok (.iconst 0, 1) := by decide +kernel
theorem dL_flatness_2 : decode cL_flatness 2 = .ok (.aload_n 0, 1) := by decide +kernel
theorem dL_flatness_3 : decode cL_flatness 3 = .ok (.iload_n 1, 1) := by decide +kernel
theorem dL_flatness_4 : decode cL_flatness 4 = .ok (.invokevirtual 21, 3) := by decide +kernel
theorem dL_flatness_7 : decode cL_flatness 7 = .ok (.i2l, 1) := by decide +kernel
theorem dL_flatness_8 : decode cL_flatness 8 = .ok (.lastore, 1) := by decide +kernel
theorem dL_flatness_9 : decode cL_flatness 9 = .ok (.goto 6, 3) := by decide +kernel
theorem dL_flatness_12 : decode cL_flatness 12 = .ok (.astore_n 3, 1) := by decide +kernel
theorem dL_flatness_13 : decode cL_flatness 13 = .ok (.iconst 1, 1) := by decide +kernel
theorem dL_flatness_14 : decode cL_flatness 14 = .ok (.ireturn, 1) := by decide +kernel
theorem dL_flatness_15 : decode cL_flatness 15 = .ok (.iconst 0, 1) := by decide +kernel
theorem dL_flatness_16 : decode cL_flatness 16 = .ok (.ireturn, 1) := by decide +kernel
theorem dL_bounds_0 : decode cL_bounds 0 = .ok (.aload_n 0, 1) := by decide +kernel
theorem dL_bounds_1 : decode cL_bounds 1 = .ok (.iload_n 1, 1) := by decide +kernel
theorem dL_bounds_2 : decode cL_bounds 2 = .ok (.iload_n 2, 1) := by decide +kernel
theorem dL_bounds_3 : decode cL_bounds 3 = .ok (.iload_n 3, 1) := by decide +kernel
theorem dL_bounds_4 : decode cL_bounds 4 = .ok (.invokevirtual 25, 3) := by decide +kernel
theorem dL_bounds_7 : decode cL_bounds 7 = .ok (.goto 7, 3) := by decide +kernel
theorem dL_bounds_10 : decode cL_bounds 10 = .ok (.astore 4, 2) := by decide +kernel
theorem dL_bounds_12 : decode cL_bounds 12 = .ok (.iconst 1, 1) := by decide +kernel
theorem dL_bounds_13 : decode cL_bounds 13 = .ok (.ireturn, 1) := by decide +kernel
theorem dL_bounds_14 : decode cL_bounds 14 = .ok (.iconst 0, 1) := by decide +kernel
theorem dL_bounds_15 : decode cL_bounds 15 = .ok (.ireturn, 1) := by decide +kernel
theorem dL_tick_0 : decode cL_tick 0 = .ok (.aload_n 2, 1) := by decide +kernel
theorem dL_tick_1 : decode cL_tick 1 = .ok (.iconst 0, 1) := by decide +kernel
theorem dL_tick_2 : decode cL_tick 2 = .ok (.aload_n 0, 1) := by decide +kernel
theorem dL_tick_3 : decode cL_tick 3 = .ok (.iload_n 1, 1) := by decide +kernel
theorem dL_tick_4 : decode cL_tick 4 = .ok (.invokevirtual 29, 3) := by decide +kernel
theorem dL_tick_7 : decode cL_tick 7 = .ok (.i2l, 1) := by decide +kernel
theorem dL_tick_8 : decode cL_tick 8 = .ok (.lastore, 1) := by decide +kernel
theorem dL_tick_9 : decode cL_tick 9 = .ok (.goto 9, 3) := by decide +kernel
theorem dL_tick_12 : decode cL_tick 12 = .ok (.astore_n 3, 1) := by decide +kernel
theorem dL_tick_13 : decode cL_tick 13 = .ok (.iconst 1, 1) := by decide +kernel
theorem dL_tick_14 : decode cL_tick 14 = .ok (.ireturn, 1) := by decide +kernel
theorem dL_tick_15 : decode cL_tick 15 = .ok (.astore_n 3, 1) := by decide +kernel
theorem dL_tick_16 : decode cL_tick 16 = .ok (.iconst 2, 1) := by decide +kernel
theorem dL_tick_17 : decode cL_tick 17 = .ok (.ireturn, 1) := by decide +kernel
theorem dL_tick_18 : decode cL_tick 18 = .ok (.iconst 0, 1) := by decide +kernel
theorem dL_tick_19 : decode cL_tick 19 = .ok (.ireturn, 1) := by decide +kernel
theorem dL_frame_0 : decode cL_frame 0 = .ok (.aload_n 1, 1) := by decide +kernel
theorem dL_frame_1 : decode cL_frame 1 = .ok (.iconst 0, 1) := by decide +kernel
theorem dL_frame_2 : decode cL_frame 2 = .ok (.aload_n 0, 1) := by decide +kernel
theorem dL_frame_3 : decode cL_frame 3 = .ok (.invokevirtual 32, 3) := by decide +kernel
theorem dL_frame_6 : decode cL_frame 6 = .ok (.i2l, 1) := by decide +kernel
theorem dL_frame_7 : decode cL_frame 7 = .ok (.lastore, 1) := by decide +kernel
theorem dL_frame_8 : decode cL_frame 8 = .ok (.goto 6, 3) := by decide +kernel
theorem dL_frame_11 : decode cL_frame 11 = .ok (.astore_n 2, 1) := by decide +kernel
theorem dL_frame_12 : decode cL_frame 12 = .ok (.iconst 1, 1) := by decide +kernel
theorem dL_frame_13 : decode cL_frame 13 = .ok (.ireturn, 1) := by decide +kernel
theorem dL_frame_14 : decode cL_frame 14 = .ok (.iconst 0, 1) := by decide +kernel
theorem dL_frame_15 : decode cL_frame 15 = .ok (.ireturn, 1) := by decide +kernel
theorem dL_claim_0 : decode cL_claim 0 = .ok (.aload 5, 2) := by decide +kernel
theorem dL_claim_2 : decode cL_claim 2 = .ok (.iconst 0, 1) := by decide +kernel
theorem dL_claim_3 : decode cL_claim 3 = .ok (.aload_n 0, 1) := by decide +kernel
theorem dL_claim_4 : decode cL_claim 4 = .ok (.iload_n 1, 1) := by decide +kernel
theorem dL_claim_5 : decode cL_claim 5 = .ok (.iload_n 2, 1) := by decide +kernel
theorem dL_claim_6 : decode cL_claim 6 = .ok (.iload_n 3, 1) := by decide +kernel
theorem dL_claim_7 : decode cL_claim 7 = .ok (.iload 4, 2) := by decide +kernel
theorem dL_claim_9 : decode cL_claim 9 = .ok (.invokevirtual 36, 3) := by decide +kernel
theorem dL_claim_12 : decode cL_claim 12 = .ok (.i2l, 1) := by decide +kernel
theorem dL_claim_13 : decode cL_claim 13 = .ok (.lastore, 1) := by decide +kernel
theorem dL_claim_14 : decode cL_claim 14 = .ok (.goto 15, 3) := by decide +kernel
theorem dL_claim_17 : decode cL_claim 17 = .ok (.astore 6, 2) := by decide +kernel
theorem dL_claim_19 : decode cL_claim 19 = .ok (.iconst 1, 1) := by decide +kernel
theorem dL_claim_20 : decode cL_claim 20 = .ok (.ireturn, 1) := by decide +kernel
theorem dL_claim_21 : decode cL_claim 21 = .ok (.astore 6, 2) := by decide +kernel
theorem dL_claim_23 : decode cL_claim 23 = .ok (.iconst 2, 1) := by decide +kernel
theorem dL_claim_24 : decode cL_claim 24 = .ok (.ireturn, 1) := by decide +kernel
theorem dL_claim_25 : decode cL_claim 25 = .ok (.astore 6, 2) := by decide +kernel
theorem dL_claim_27 : decode cL_claim 27 = .ok (.iconst 3, 1) := by decide +kernel
theorem dL_claim_28 : decode cL_claim 28 = .ok (.ireturn, 1) := by decide +kernel
theorem dL_claim_29 : decode cL_claim 29 = .ok (.iconst 0, 1) := by decide +kernel
theorem dL_claim_30 : decode cL_claim 30 = .ok (.ireturn, 1) := by decide +kernel
theorem dL_told_0 : decode cL_told 0 = .ok (.aload_n 3, 1) := by decide +kernel
theorem dL_told_1 : decode cL_told 1 = .ok (.iconst 0, 1) := by decide +kernel
theorem dL_told_2 : decode cL_told 2 = .ok (.aload_n 0, 1) := by decide +kernel
theorem dL_told_3 : decode cL_told 3 = .ok (.iload_n 1, 1) := by decide +kernel
theorem dL_told_4 : decode cL_told 4 = .ok (.iload_n 2, 1) := by decide +kernel
theorem dL_told_5 : decode cL_told 5 = .ok (.invokevirtual 41, 3) := by decide +kernel
theorem dL_told_8 : decode cL_told 8 = .ok (.i2l, 1) := by decide +kernel
theorem dL_told_9 : decode cL_told 9 = .ok (.lastore, 1) := by decide +kernel
theorem dL_told_10 : decode cL_told 10 = .ok (.goto 11, 3) := by decide +kernel
theorem dL_told_13 : decode cL_told 13 = .ok (.astore 4, 2) := by decide +kernel
theorem dL_told_15 : decode cL_told 15 = .ok (.iconst 1, 1) := by decide +kernel
theorem dL_told_16 : decode cL_told 16 = .ok (.ireturn, 1) := by decide +kernel
theorem dL_told_17 : decode cL_told 17 = .ok (.astore 4, 2) := by decide +kernel
theorem dL_told_19 : decode cL_told 19 = .ok (.iconst 2, 1) := by decide +kernel
theorem dL_told_20 : decode cL_told 20 = .ok (.ireturn, 1) := by decide +kernel
theorem dL_told_21 : decode cL_told 21 = .ok (.iconst 0, 1) := by decide +kernel
theorem dL_told_22 : decode cL_told 22 = .ok (.ireturn, 1) := by decide +kernel
theorem dL_angle_0 : decode cL_angle 0 = .ok (.aload_n 2, 1) := by decide +kernel
theorem dL_angle_1 : decode cL_angle 1 = .ok (.iconst 0, 1) := by decide +kernel
theorem dL_angle_2 : decode cL_angle 2 = .ok (.aload_n 0, 1) := by decide +kernel
theorem dL_angle_3 : decode cL_angle 3 = .ok (.iload_n 1, 1) := by decide +kernel
theorem dL_angle_4 : decode cL_angle 4 = .ok (.invokevirtual 45, 3) := by decide +kernel
theorem dL_angle_7 : decode cL_angle 7 = .ok (.i2l, 1) := by decide +kernel
theorem dL_angle_8 : decode cL_angle 8 = .ok (.lastore, 1) := by decide +kernel
theorem dL_angle_9 : decode cL_angle 9 = .ok (.goto 6, 3) := by decide +kernel
theorem dL_angle_12 : decode cL_angle 12 = .ok (.astore_n 3, 1) := by decide +kernel
theorem dL_angle_13 : decode cL_angle 13 = .ok (.iconst 1, 1) := by decide +kernel
theorem dL_angle_14 : decode cL_angle 14 = .ok (.ireturn, 1) := by decide +kernel
theorem dL_angle_15 : decode cL_angle 15 = .ok (.iconst 0, 1) := by decide +kernel
theorem dL_angle_16 : decode cL_angle 16 = .ok (.ireturn, 1) := by decide +kernel
theorem dL_speed_0 : decode cL_speed 0 = .ok (.aload_n 2, 1) := by decide +kernel
theorem dL_speed_1 : decode cL_speed 1 = .ok (.iconst 0, 1) := by decide +kernel
theorem dL_speed_2 : decode cL_speed 2 = .ok (.aload_n 0, 1) := by decide +kernel
theorem dL_speed_3 : decode cL_speed 3 = .ok (.iload_n 1, 1) := by decide +kernel
theorem dL_speed_4 : decode cL_speed 4 = .ok (.invokevirtual 48, 3) := by decide +kernel
theorem dL_speed_7 : decode cL_speed 7 = .ok (.i2l, 1) := by decide +kernel
theorem dL_speed_8 : decode cL_speed 8 = .ok (.lastore, 1) := by decide +kernel
theorem dL_speed_9 : decode cL_speed 9 = .ok (.goto 6, 3) := by decide +kernel
theorem dL_speed_12 : decode cL_speed 12 = .ok (.astore_n 3, 1) := by decide +kernel
theorem dL_speed_13 : decode cL_speed 13 = .ok (.iconst 1, 1) := by decide +kernel
theorem dL_speed_14 : decode cL_speed 14 = .ok (.ireturn, 1) := by decide +kernel
theorem dL_speed_15 : decode cL_speed 15 = .ok (.iconst 0, 1) := by decide +kernel
theorem dL_speed_16 : decode cL_speed 16 = .ok (.ireturn, 1) := by decide +kernel
theorem dL_count_0 : decode cL_count 0 = .ok (.aload_n 2, 1) := by decide +kernel
theorem dL_count_1 : decode cL_count 1 = .ok (.iconst 0, 1) := by decide +kernel
theorem dL_count_2 : decode cL_count 2 = .ok (.aload_n 0, 1) := by decide +kernel
theorem dL_count_3 : decode cL_count 3 = .ok (.iload_n 1, 1) := by decide +kernel
theorem dL_count_4 : decode cL_count 4 = .ok (.invokevirtual 51, 3) := by decide +kernel
theorem dL_count_7 : decode cL_count 7 = .ok (.i2l, 1) := by decide +kernel
theorem dL_count_8 : decode cL_count 8 = .ok (.lastore, 1) := by decide +kernel
theorem dL_count_9 : decode cL_count 9 = .ok (.goto 6, 3) := by decide +kernel
theorem dL_count_12 : decode cL_count 12 = .ok (.astore_n 3, 1) := by decide +kernel
theorem dL_count_13 : decode cL_count 13 = .ok (.iconst 1, 1) := by decide +kernel
theorem dL_count_14 : decode cL_count 14 = .ok (.ireturn, 1) := by decide +kernel
theorem dL_count_15 : decode cL_count 15 = .ok (.iconst 0, 1) := by decide +kernel
theorem dL_count_16 : decode cL_count 16 = .ok (.ireturn, 1) := by decide +kernel
theorem dL_mass_0 : decode cL_mass 0 = .ok (.aload_n 2, 1) := by decide +kernel
theorem dL_mass_1 : decode cL_mass 1 = .ok (.iconst 0, 1) := by decide +kernel
theorem dL_mass_2 : decode cL_mass 2 = .ok (.aload_n 0, 1) := by decide +kernel
theorem dL_mass_3 : decode cL_mass 3 = .ok (.iload_n 1, 1) := by decide +kernel
theorem dL_mass_4 : decode cL_mass 4 = .ok (.invokevirtual 54, 3) := by decide +kernel
theorem dL_mass_7 : decode cL_mass 7 = .ok (.i2l, 1) := by decide +kernel
theorem dL_mass_8 : decode cL_mass 8 = .ok (.lastore, 1) := by decide +kernel
theorem dL_mass_9 : decode cL_mass 9 = .ok (.goto 6, 3) := by decide +kernel
theorem dL_mass_12 : decode cL_mass 12 = .ok (.astore_n 3, 1) := by decide +kernel
theorem dL_mass_13 : decode cL_mass 13 = .ok (.iconst 1, 1) := by decide +kernel
theorem dL_mass_14 : decode cL_mass 14 = .ok (.ireturn, 1) := by decide +kernel
theorem dL_mass_15 : decode cL_mass 15 = .ok (.iconst 0, 1) := by decide +kernel
theorem dL_mass_16 : decode cL_mass 16 = .ok (.ireturn, 1) := by decide +kernel
theorem dL_sum_0 : decode cL_sum 0 = .ok (.aload_n 2, 1) := by decide +kernel
theorem dL_sum_1 : decode cL_sum 1 = .ok (.iconst 0, 1) := by decide +kernel
theorem dL_sum_2 : decode cL_sum 2 = .ok (.aload_n 0, 1) := by decide +kernel
theorem dL_sum_3 : decode cL_sum 3 = .ok (.iload_n 1, 1) := by decide +kernel
theorem dL_sum_4 : decode cL_sum 4 = .ok (.invokevirtual 57, 3) := by decide +kernel
theorem dL_sum_7 : decode cL_sum 7 = .ok (.i2l, 1) := by decide +kernel
theorem dL_sum_8 : decode cL_sum 8 = .ok (.lastore, 1) := by decide +kernel
theorem dL_sum_9 : decode cL_sum 9 = .ok (.goto 6, 3) := by decide +kernel
theorem dL_sum_12 : decode cL_sum 12 = .ok (.astore_n 3, 1) := by decide +kernel
theorem dL_sum_13 : decode cL_sum 13 = .ok (.iconst 1, 1) := by decide +kernel
theorem dL_sum_14 : decode cL_sum 14 = .ok (.ireturn, 1) := by decide +kernel
theorem dL_sum_15 : decode cL_sum 15 = .ok (.iconst 0, 1) := by decide +kernel
theorem dL_sum_16 : decode cL_sum 16 = .ok (.ireturn, 1) := by decide +kernel
theorem dL_momentum_0 : decode cL_momentum 0 = .ok (.aload_n 2, 1) := by decide +kernel
theorem dL_momentum_1 : decode cL_momentum 1 = .ok (.iconst 0, 1) := by decide +kernel
theorem dL_momentum_2 : decode cL_momentum 2 = .ok (.aload_n 0, 1) := by decide +kernel
theorem dL_momentum_3 : decode cL_momentum 3 = .ok (.iload_n 1, 1) := by decide +kernel
theorem dL_momentum_4 : decode cL_momentum 4 = .ok (.invokevirtual 60, 3) := by decide +kernel
theorem dL_momentum_7 : decode cL_momentum 7 = .ok (.lastore, 1) := by decide +kernel
theorem dL_momentum_8 : decode cL_momentum 8 = .ok (.goto 6, 3) := by decide +kernel
theorem dL_momentum_11 : decode cL_momentum 11 = .ok (.astore_n 3, 1) := by decide +kernel
theorem dL_momentum_12 : decode cL_momentum 12 = .ok (.iconst 1, 1) := by decide +kernel
theorem dL_momentum_13 : decode cL_momentum 13 = .ok (.ireturn, 1) := by decide +kernel
theorem dL_momentum_14 : decode cL_momentum 14 = .ok (.iconst 0, 1) := by decide +kernel
theorem dL_momentum_15 : decode cL_momentum 15 = .ok (.ireturn, 1) := by decide +kernel
theorem dL_resonance_0 : decode cL_resonance 0 = .ok (.aload_n 3, 1) := by decide +kernel
theorem dL_resonance_1 : decode cL_resonance 1 = .ok (.iconst 0, 1) := by decide +kernel
theorem dL_resonance_2 : decode cL_resonance 2 = .ok (.aload_n 0, 1) := by decide +kernel
theorem dL_resonance_3 : decode cL_resonance 3 = .ok (.iload_n 1, 1) := by decide +kernel
theorem dL_resonance_4 : decode cL_resonance 4 = .ok (.iload_n 2, 1) := by decide +kernel
theorem dL_resonance_5 : decode cL_resonance 5 = .ok (.invokevirtual 64, 3) := by decide +kernel
theorem dL_resonance_8 : decode cL_resonance 8 = .ok (.i2l, 1) := by decide +kernel
theorem dL_resonance_9 : decode cL_resonance 9 = .ok (.lastore, 1) := by decide +kernel
theorem dL_resonance_10 : decode cL_resonance 10 = .ok (.goto 11, 3) := by decide +kernel
theorem dL_resonance_13 : decode cL_resonance 13 = .ok (.astore 4, 2) := by decide +kernel
theorem dL_resonance_15 : decode cL_resonance 15 = .ok (.iconst 1, 1) := by decide +kernel
theorem dL_resonance_16 : decode cL_resonance 16 = .ok (.ireturn, 1) := by decide +kernel
theorem dL_resonance_17 : decode cL_resonance 17 = .ok (.astore 4, 2) := by decide +kernel
theorem dL_resonance_19 : decode cL_resonance 19 = .ok (.iconst 2, 1) := by decide +kernel
theorem dL_resonance_20 : decode cL_resonance 20 = .ok (.ireturn, 1) := by decide +kernel
theorem dL_resonance_21 : decode cL_resonance 21 = .ok (.iconst 0, 1) := by decide +kernel
theorem dL_resonance_22 : decode cL_resonance 22 = .ok (.ireturn, 1) := by decide +kernel
theorem dL_gap_0 : decode cL_gap 0 = .ok (.aload_n 3, 1) := by decide +kernel
theorem dL_gap_1 : decode cL_gap 1 = .ok (.iconst 0, 1) := by decide +kernel
theorem dL_gap_2 : decode cL_gap 2 = .ok (.aload_n 0, 1) := by decide +kernel
theorem dL_gap_3 : decode cL_gap 3 = .ok (.iload_n 1, 1) := by decide +kernel
theorem dL_gap_4 : decode cL_gap 4 = .ok (.iload_n 2, 1) := by decide +kernel
theorem dL_gap_5 : decode cL_gap 5 = .ok (.invokevirtual 67, 3) := by decide +kernel
theorem dL_gap_8 : decode cL_gap 8 = .ok (.i2l, 1) := by decide +kernel
theorem dL_gap_9 : decode cL_gap 9 = .ok (.lastore, 1) := by decide +kernel
theorem dL_gap_10 : decode cL_gap 10 = .ok (.goto 11, 3) := by decide +kernel
theorem dL_gap_13 : decode cL_gap 13 = .ok (.astore 4, 2) := by decide +kernel
theorem dL_gap_15 : decode cL_gap 15 = .ok (.iconst 1, 1) := by decide +kernel
theorem dL_gap_16 : decode cL_gap 16 = .ok (.ireturn, 1) := by decide +kernel
theorem dL_gap_17 : decode cL_gap 17 = .ok (.astore 4, 2) := by decide +kernel
theorem dL_gap_19 : decode cL_gap 19 = .ok (.iconst 2, 1) := by decide +kernel
theorem dL_gap_20 : decode cL_gap 20 = .ok (.ireturn, 1) := by decide +kernel
theorem dL_gap_21 : decode cL_gap 21 = .ok (.iconst 0, 1) := by decide +kernel
theorem dL_gap_22 : decode cL_gap 22 = .ok (.ireturn, 1) := by decide +kernel
theorem dL_framed_0 : decode cL_framed 0 = .ok (.aload_n 3, 1) := by decide +kernel
theorem dL_framed_1 : decode cL_framed 1 = .ok (.iconst 0, 1) := by decide +kernel
theorem dL_framed_2 : decode cL_framed 2 = .ok (.aload_n 0, 1) := by decide +kernel
theorem dL_framed_3 : decode cL_framed 3 = .ok (.iload_n 1, 1) := by decide +kernel
theorem dL_framed_4 : decode cL_framed 4 = .ok (.iload_n 2, 1) := by decide +kernel
theorem dL_framed_5 : decode cL_framed 5 = .ok (.invokevirtual 70, 3) := by decide +kernel
theorem dL_framed_8 : decode cL_framed 8 = .ok (.i2l, 1) := by decide +kernel
theorem dL_framed_9 : decode cL_framed 9 = .ok (.lastore, 1) := by decide +kernel
theorem dL_framed_10 : decode cL_framed 10 = .ok (.goto 11, 3) := by decide +kernel
theorem dL_framed_13 : decode cL_framed 13 = .ok (.astore 4, 2) := by decide +kernel
theorem dL_framed_15 : decode cL_framed 15 = .ok (.iconst 1, 1) := by decide +kernel
theorem dL_framed_16 : decode cL_framed 16 = .ok (.ireturn, 1) := by decide +kernel
theorem dL_framed_17 : decode cL_framed 17 = .ok (.astore 4, 2) := by decide +kernel
theorem dL_framed_19 : decode cL_framed 19 = .ok (.iconst 2, 1) := by decide +kernel
theorem dL_framed_20 : decode cL_framed 20 = .ok (.ireturn, 1) := by decide +kernel
theorem dL_framed_21 : decode cL_framed 21 = .ok (.iconst 0, 1) := by decide +kernel
theorem dL_framed_22 : decode cL_framed 22 = .ok (.ireturn, 1) := by decide +kernel
theorem dL_holds_0 : decode cL_holds 0 = .ok (.aload_n 3, 1) := by decide +kernel
theorem dL_holds_1 : decode cL_holds 1 = .ok (.iconst 0, 1) := by decide +kernel
theorem dL_holds_2 : decode cL_holds 2 = .ok (.aload_n 0, 1) := by decide +kernel
theorem dL_holds_3 : decode cL_holds 3 = .ok (.iload_n 1, 1) := by decide +kernel
theorem dL_holds_4 : decode cL_holds 4 = .ok (.iload_n 2, 1) := by decide +kernel
theorem dL_holds_5 : decode cL_holds 5 = .ok (.invokevirtual 73, 3) := by decide +kernel
theorem dL_holds_8 : decode cL_holds 8 = .ok (.ifCond .eq 7, 3) := by decide +kernel
theorem dL_holds_11 : decode cL_holds 11 = .ok (.lconst 1, 1) := by decide +kernel
theorem dL_holds_12 : decode cL_holds 12 = .ok (.goto 4, 3) := by decide +kernel
theorem dL_holds_15 : decode cL_holds 15 = .ok (.lconst 0, 1) := by decide +kernel
theorem dL_holds_16 : decode cL_holds 16 = .ok (.lastore, 1) := by decide +kernel
theorem dL_holds_17 : decode cL_holds 17 = .ok (.goto 7, 3) := by decide +kernel
theorem dL_holds_20 : decode cL_holds 20 = .ok (.astore 4, 2) := by decide +kernel
theorem dL_holds_22 : decode cL_holds 22 = .ok (.iconst 1, 1) := by decide +kernel
theorem dL_holds_23 : decode cL_holds 23 = .ok (.ireturn, 1) := by decide +kernel
theorem dL_holds_24 : decode cL_holds 24 = .ok (.iconst 0, 1) := by decide +kernel
theorem dL_holds_25 : decode cL_holds 25 = .ok (.ireturn, 1) := by decide +kernel
