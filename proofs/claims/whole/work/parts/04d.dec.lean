theorem dX8_breaks_56 : decode cX8_breaks 56 = .ok (.iload_n 3, 1) := by decide +kernel
theorem dX8_breaks_57 : decode cX8_breaks 57 = .ok (.iconst 0, 1) := by decide +kernel
theorem dX8_breaks_58 : decode cX8_breaks 58 = .ok (.aload_n 0, 1) := by decide +kernel
theorem dX8_breaks_59 : decode cX8_breaks 59 = .ok (.getfield 32, 3) := by decide +kernel
theorem dX8_breaks_62 : decode cX8_breaks 62 = .ok (.iload_n 1, 1) := by decide +kernel
theorem dX8_breaks_63 : decode cX8_breaks 63 = .ok (.iaload, 1) := by decide +kernel
theorem dX8_breaks_64 : decode cX8_breaks 64 = .ok (.invokevirtual 91, 3) := by decide +kernel
theorem dX8_breaks_67 : decode cX8_breaks 67 = .ok (.istore 4, 2) := by decide +kernel
theorem dX8_breaks_69 : decode cX8_breaks 69 = .ok (.aload_n 0, 1) := by decide +kernel
theorem dX8_breaks_70 : decode cX8_breaks 70 = .ok (.getfield 39, 3) := by decide +kernel
theorem dX8_breaks_73 : decode cX8_breaks 73 = .ok (.iload 4, 2) := by decide +kernel
theorem dX8_breaks_75 : decode cX8_breaks 75 = .ok (.iconst 1, 1) := by decide +kernel
theorem dX8_breaks_76 : decode cX8_breaks 76 = .ok (.bastore, 1) := by decide +kernel
theorem dX8_breaks_77 : decode cX8_breaks 77 = .ok (.aload_n 0, 1) := by decide +kernel
theorem dX8_breaks_78 : decode cX8_breaks 78 = .ok (.iload 4, 2) := by decide +kernel
theorem dX8_breaks_80 : decode cX8_breaks 80 = .ok (.iload_n 2, 1) := by decide +kernel
theorem dX8_breaks_81 : decode cX8_breaks 81 = .ok (.iconst 1, 1) := by decide +kernel
theorem dX8_breaks_82 : decode cX8_breaks 82 = .ok (.iadd, 1) := by decide +kernel
theorem dX8_breaks_83 : decode cX8_breaks 83 = .ok (.invokevirtual 129, 3) := by decide +kernel
theorem dX8_breaks_86 : decode cX8_breaks 86 = .ok (.aload_n 0, 1) := by decide +kernel
theorem dX8_breaks_87 : decode cX8_breaks 87 = .ok (.dup, 1) := by decide +kernel
theorem dX8_breaks_88 : decode cX8_breaks 88 = .ok (.getfield 139, 3) := by decide +kernel
theorem dX8_breaks_91 : decode cX8_breaks 91 = .ok (.iconst 1, 1) := by decide +kernel
theorem dX8_breaks_92 : decode cX8_breaks 92 = .ok (.iadd, 1) := by decide +kernel
theorem dX8_breaks_93 : decode cX8_breaks 93 = .ok (.putfield 139, 3) := by decide +kernel
theorem dX8_breaks_96 : decode cX8_breaks 96 = .ok (.return_, 1) := by decide +kernel
theorem dX8_parts_0 : decode cX8_parts 0 = .ok (.aload_n 0, 1) := by decide +kernel
theorem dX8_parts_1 : decode cX8_parts 1 = .ok (.getfield 19, 3) := by decide +kernel
theorem dX8_parts_4 : decode cX8_parts 4 = .ok (.iload_n 2, 1) := by decide +kernel
theorem dX8_parts_5 : decode cX8_parts 5 = .ok (.iaload, 1) := by decide +kernel
theorem dX8_parts_6 : decode cX8_parts 6 = .ok (.aload_n 0, 1) := by decide +kernel
theorem dX8_parts_7 : decode cX8_parts 7 = .ok (.getfield 19, 3) := by decide +kernel
theorem dX8_parts_10 : decode cX8_parts 10 = .ok (.iload_n 1, 1) := by decide +kernel
theorem dX8_parts_11 : decode cX8_parts 11 = .ok (.iaload, 1) := by decide +kernel
theorem dX8_parts_12 : decode cX8_parts 12 = .ok (.if_icmp .ge 7, 3) := by decide +kernel
theorem dX8_parts_15 : decode cX8_parts 15 = .ok (.iload_n 2, 1) := by decide +kernel
theorem dX8_parts_16 : decode cX8_parts 16 = .ok (.goto 4, 3) := by decide +kernel
theorem dX8_parts_19 : decode cX8_parts 19 = .ok (.iload_n 1, 1) := by decide +kernel
theorem dX8_parts_20 : decode cX8_parts 20 = .ok (.istore_n 3, 1) := by decide +kernel
theorem dX8_parts_21 : decode cX8_parts 21 = .ok (.iload_n 3, 1) := by decide +kernel
theorem dX8_parts_22 : decode cX8_parts 22 = .ok (.iload_n 1, 1) := by decide +kernel
theorem dX8_parts_23 : decode cX8_parts 23 = .ok (.if_icmp .ne 7, 3) := by decide +kernel
theorem dX8_parts_26 : decode cX8_parts 26 = .ok (.iload_n 2, 1) := by decide +kernel
theorem dX8_parts_27 : decode cX8_parts 27 = .ok (.goto 4, 3) := by decide +kernel
theorem dX8_parts_30 : decode cX8_parts 30 = .ok (.iload_n 1, 1) := by decide +kernel
theorem dX8_parts_31 : decode cX8_parts 31 = .ok (.istore 4, 2) := by decide +kernel
theorem dX8_parts_33 : decode cX8_parts 33 = .ok (.aload_n 0, 1) := by decide +kernel
theorem dX8_parts_34 : decode cX8_parts 34 = .ok (.getfield 29, 3) := by decide +kernel
theorem dX8_parts_37 : decode cX8_parts 37 = .ok (.iload_n 1, 1) := by decide +kernel
theorem dX8_parts_38 : decode cX8_parts 38 = .ok (.aload_n 0, 1) := by decide +kernel
theorem dX8_parts_39 : decode cX8_parts 39 = .ok (.getfield 29, 3) := by decide +kernel
theorem dX8_parts_42 : decode cX8_parts 42 = .ok (.iload_n 1, 1) := by decide +kernel
theorem dX8_parts_43 : decode cX8_parts 43 = .ok (.iaload, 1) := by decide +kernel
theorem dX8_parts_44 : decode cX8_parts 44 = .ok (.aload_n 0, 1) := by decide +kernel
theorem dX8_parts_45 : decode cX8_parts 45 = .ok (.getfield 16, 3) := by decide +kernel
theorem dX8_parts_48 : decode cX8_parts 48 = .ok (.imul, 1) := by decide +kernel
theorem dX8_parts_49 : decode cX8_parts 49 = .ok (.bipush 100, 2) := by decide +kernel
theorem dX8_parts_51 : decode cX8_parts 51 = .ok (.idiv, 1) := by decide +kernel
theorem dX8_parts_52 : decode cX8_parts 52 = .ok (.iastore, 1) := by decide +kernel
theorem dX8_parts_53 : decode cX8_parts 53 = .ok (.aload_n 0, 1) := by decide +kernel
theorem dX8_parts_54 : decode cX8_parts 54 = .ok (.getfield 29, 3) := by decide +kernel
theorem dX8_parts_57 : decode cX8_parts 57 = .ok (.iload_n 2, 1) := by decide +kernel
theorem dX8_parts_58 : decode cX8_parts 58 = .ok (.aload_n 0, 1) := by decide +kernel
theorem dX8_parts_59 : decode cX8_parts 59 = .ok (.getfield 29, 3) := by decide +kernel
theorem dX8_parts_62 : decode cX8_parts 62 = .ok (.iload_n 2, 1) := by decide +kernel
theorem dX8_parts_63 : decode cX8_parts 63 = .ok (.iaload, 1) := by decide +kernel
theorem dX8_parts_64 : decode cX8_parts 64 = .ok (.aload_n 0, 1) := by decide +kernel
theorem dX8_parts_65 : decode cX8_parts 65 = .ok (.getfield 16, 3) := by decide +kernel
theorem dX8_parts_68 : decode cX8_parts 68 = .ok (.imul, 1) := by decide +kernel
theorem dX8_parts_69 : decode cX8_parts 69 = .ok (.bipush 100, 2) := by decide +kernel
theorem dX8_parts_71 : decode cX8_parts 71 = .ok (.idiv, 1) := by decide +kernel
theorem dX8_parts_72 : decode cX8_parts 72 = .ok (.iastore, 1) := by decide +kernel
theorem dX8_parts_73 : decode cX8_parts 73 = .ok (.aload_n 0, 1) := by decide +kernel
theorem dX8_parts_74 : decode cX8_parts 74 = .ok (.iload_n 3, 1) := by decide +kernel
theorem dX8_parts_75 : decode cX8_parts 75 = .ok (.aload_n 0, 1) := by decide +kernel
theorem dX8_parts_76 : decode cX8_parts 76 = .ok (.getfield 19, 3) := by decide +kernel
theorem dX8_parts_79 : decode cX8_parts 79 = .ok (.iload_n 3, 1) := by decide +kernel
theorem dX8_parts_80 : decode cX8_parts 80 = .ok (.iaload, 1) := by decide +kernel
theorem dX8_parts_81 : decode cX8_parts 81 = .ok (.iconst 1, 1) := by decide +kernel
theorem dX8_parts_82 : decode cX8_parts 82 = .ok (.isub, 1) := by decide +kernel
theorem dX8_parts_83 : decode cX8_parts 83 = .ok (.invokevirtual 129, 3) := by decide +kernel
theorem dX8_parts_86 : decode cX8_parts 86 = .ok (.aload_n 0, 1) := by decide +kernel
theorem dX8_parts_87 : decode cX8_parts 87 = .ok (.iload 4, 2) := by decide +kernel
theorem dX8_parts_89 : decode cX8_parts 89 = .ok (.aload_n 0, 1) := by decide +kernel
theorem dX8_parts_90 : decode cX8_parts 90 = .ok (.getfield 19, 3) := by decide +kernel
theorem dX8_parts_93 : decode cX8_parts 93 = .ok (.iload 4, 2) := by decide +kernel
theorem dX8_parts_95 : decode cX8_parts 95 = .ok (.iaload, 1) := by decide +kernel
theorem dX8_parts_96 : decode cX8_parts 96 = .ok (.iconst 1, 1) := by decide +kernel
theorem dX8_parts_97 : decode cX8_parts 97 = .ok (.iadd, 1) := by decide +kernel
theorem dX8_parts_98 : decode cX8_parts 98 = .ok (.invokevirtual 129, 3) := by decide +kernel
theorem dX8_parts_101 : decode cX8_parts 101 = .ok (.aload_n 0, 1) := by decide +kernel
theorem dX8_parts_102 : decode cX8_parts 102 = .ok (.dup, 1) := by decide +kernel
theorem dX8_parts_103 : decode cX8_parts 103 = .ok (.getfield 142, 3) := by decide +kernel
theorem dX8_parts_106 : decode cX8_parts 106 = .ok (.iconst 1, 1) := by decide +kernel
theorem dX8_parts_107 : decode cX8_parts 107 = .ok (.iadd, 1) := by decide +kernel
theorem dX8_parts_108 : decode cX8_parts 108 = .ok (.putfield 142, 3) := by decide +kernel
theorem dX8_parts_111 : decode cX8_parts 111 = .ok (.return_, 1) := by decide +kernel
theorem dX8_meets_0 : decode cX8_meets 0 = .ok (.aload_n 0, 1) := by decide +kernel
theorem dX8_meets_1 : decode cX8_meets 1 = .ok (.getfield 39, 3) := by decide +kernel
theorem dX8_meets_4 : decode cX8_meets 4 = .ok (.iload_n 1, 1) := by decide +kernel
theorem dX8_meets_5 : decode cX8_meets 5 = .ok (.iconst 1, 1) := by decide +kernel
theorem dX8_meets_6 : decode cX8_meets 6 = .ok (.bastore, 1) := by decide +kernel
theorem dX8_meets_7 : decode cX8_meets 7 = .ok (.aload_n 0, 1) := by decide +kernel
theorem dX8_meets_8 : decode cX8_meets 8 = .ok (.getfield 39, 3) := by decide +kernel
theorem dX8_meets_11 : decode cX8_meets 11 = .ok (.iload_n 2, 1) := by decide +kernel
theorem dX8_meets_12 : decode cX8_meets 12 = .ok (.iconst 1, 1) := by decide +kernel
theorem dX8_meets_13 : decode cX8_meets 13 = .ok (.bastore, 1) := by decide +kernel
theorem dX8_meets_14 : decode cX8_meets 14 = .ok (.aload_n 0, 1) := by decide +kernel
theorem dX8_meets_15 : decode cX8_meets 15 = .ok (.getfield 29, 3) := by decide +kernel
theorem dX8_meets_18 : decode cX8_meets 18 = .ok (.iload_n 1, 1) := by decide +kernel
theorem dX8_meets_19 : decode cX8_meets 19 = .ok (.iaload, 1) := by decide +kernel
theorem dX8_meets_20 : decode cX8_meets 20 = .ok (.aload_n 0, 1) := by decide +kernel
theorem dX8_meets_21 : decode cX8_meets 21 = .ok (.getfield 29, 3) := by decide +kernel
theorem dX8_meets_24 : decode cX8_meets 24 = .ok (.iload_n 2, 1) := by decide +kernel
theorem dX8_meets_25 : decode cX8_meets 25 = .ok (.iaload, 1) := by decide +kernel
theorem dX8_meets_26 : decode cX8_meets 26 = .ok (.iadd, 1) := by decide +kernel
theorem dX8_meets_27 : decode cX8_meets 27 = .ok (.aload_n 0, 1) := by decide +kernel
theorem dX8_meets_28 : decode cX8_meets 28 = .ok (.aload_n 0, 1) := by decide +kernel
theorem dX8_meets_29 : decode cX8_meets 29 = .ok (.getfield 19, 3) := by decide +kernel
theorem dX8_meets_32 : decode cX8_meets 32 = .ok (.iload_n 1, 1) := by decide +kernel
theorem dX8_meets_33 : decode cX8_meets 33 = .ok (.iaload, 1) := by decide +kernel
theorem dX8_meets_34 : decode cX8_meets 34 = .ok (.invokevirtual 145, 3) := by decide +kernel
theorem dX8_meets_37 : decode cX8_meets 37 = .ok (.aload_n 0, 1) := by decide +kernel
theorem dX8_meets_38 : decode cX8_meets 38 = .ok (.aload_n 0, 1) := by decide +kernel
theorem dX8_meets_39 : decode cX8_meets 39 = .ok (.getfield 19, 3) := by decide +kernel
theorem dX8_meets_42 : decode cX8_meets 42 = .ok (.iload_n 2, 1) := by decide +kernel
theorem dX8_meets_43 : decode cX8_meets 43 = .ok (.iaload, 1) := by decide +kernel
theorem dX8_meets_44 : decode cX8_meets 44 = .ok (.invokevirtual 145, 3) := by decide +kernel
theorem dX8_meets_47 : decode cX8_meets 47 = .ok (.isub, 1) := by decide +kernel
theorem dX8_meets_48 : decode cX8_meets 48 = .ok (.invokestatic 102, 3) := by decide +kernel
theorem dX8_meets_51 : decode cX8_meets 51 = .ok (.iadd, 1) := by decide +kernel
theorem dX8_meets_52 : decode cX8_meets 52 = .ok (.istore_n 3, 1) := by decide +kernel
theorem dX8_meets_53 : decode cX8_meets 53 = .ok (.aload_n 0, 1) := by decide +kernel
theorem dX8_meets_54 : decode cX8_meets 54 = .ok (.getfield 26, 3) := by decide +kernel
theorem dX8_meets_57 : decode cX8_meets 57 = .ok (.iload_n 1, 1) := by decide +kernel
theorem dX8_meets_58 : decode cX8_meets 58 = .ok (.iaload, 1) := by decide +kernel
theorem dX8_meets_59 : decode cX8_meets 59 = .ok (.aload_n 0, 1) := by decide +kernel
theorem dX8_meets_60 : decode cX8_meets 60 = .ok (.getfield 26, 3) := by decide +kernel
theorem dX8_meets_63 : decode cX8_meets 63 = .ok (.iload_n 2, 1) := by decide +kernel
theorem dX8_meets_64 : decode cX8_meets 64 = .ok (.iaload, 1) := by decide +kernel
theorem dX8_meets_65 : decode cX8_meets 65 = .ok (.if_icmp .ge 7, 3) := by decide +kernel
theorem dX8_meets_68 : decode cX8_meets 68 = .ok (.iload_n 1, 1) := by decide +kernel
theorem dX8_meets_69 : decode cX8_meets 69 = .ok (.goto 4, 3) := by decide +kernel
theorem dX8_meets_72 : decode cX8_meets 72 = .ok (.iload_n 2, 1) := by decide +kernel
theorem dX8_meets_73 : decode cX8_meets 73 = .ok (.istore 4, 2) := by decide +kernel
theorem dX8_meets_75 : decode cX8_meets 75 = .ok (.aload_n 0, 1) := by decide +kernel
theorem dX8_meets_76 : decode cX8_meets 76 = .ok (.iload_n 1, 1) := by decide +kernel
theorem dX8_meets_77 : decode cX8_meets 77 = .ok (.invokevirtual 125, 3) := by decide +kernel
theorem dX8_meets_80 : decode cX8_meets 80 = .ok (.aload_n 0, 1) := by decide +kernel
theorem dX8_meets_81 : decode cX8_meets 81 = .ok (.iload_n 2, 1) := by decide +kernel
theorem dX8_meets_82 : decode cX8_meets 82 = .ok (.invokevirtual 125, 3) := by decide +kernel
theorem dX8_meets_85 : decode cX8_meets 85 = .ok (.ladd, 1) := by decide +kernel
theorem dX8_meets_86 : decode cX8_meets 86 = .ok (.lstore 5, 2) := by decide +kernel
theorem dX8_meets_88 : decode cX8_meets 88 = .ok (.aload_n 0, 1) := by decide +kernel
theorem dX8_meets_89 : decode cX8_meets 89 = .ok (.getfield 81, 3) := by decide +kernel
theorem dX8_meets_92 : decode cX8_meets 92 = .ok (.istore 7, 2) := by decide +kernel
theorem dX8_meets_94 : decode cX8_meets 94 = .ok (.iload_n 3, 1) := by decide +kernel
theorem dX8_meets_95 : decode cX8_meets 95 = .ok (.aload_n 0, 1) := by decide +kernel
theorem dX8_meets_96 : decode cX8_meets 96 = .ok (.getfield 7, 3) := by decide +kernel
theorem dX8_meets_99 : decode cX8_meets 99 = .ok (.if_icmp .gt 27, 3) := by decide +kernel
theorem dX8_meets_102 : decode cX8_meets 102 = .ok (.aload_n 0, 1) := by decide +kernel
theorem dX8_meets_103 : decode cX8_meets 103 = .ok (.iload_n 1, 1) := by decide +kernel
theorem dX8_meets_104 : decode cX8_meets 104 = .ok (.iload_n 2, 1) := by decide +kernel
theorem dX8_meets_105 : decode cX8_meets 105 = .ok (.invokevirtual 148, 3) := by decide +kernel
theorem dX8_meets_108 : decode cX8_meets 108 = .ok (.aload_n 0, 1) := by decide +kernel
theorem dX8_meets_109 : decode cX8_meets 109 = .ok (.dup, 1) := by decide +kernel
theorem dX8_meets_110 : decode cX8_meets 110 = .ok (.getfield 151, 3) := by decide +kernel
theorem dX8_meets_113 : decode cX8_meets 113 = .ok (.lload 5, 2) := by decide +kernel
theorem dX8_meets_115 : decode cX8_meets 115 = .ok (.aload_n 0, 1) := by decide +kernel
theorem dX8_meets_116 : decode cX8_meets 116 = .ok (.iload_n 1, 1) := by decide +kernel
theorem dX8_meets_117 : decode cX8_meets 117 = .ok (.invokevirtual 125, 3) := by decide +kernel
theorem dX8_meets_120 : decode cX8_meets 120 = .ok (.lsub, 1) := by decide +kernel
theorem dX8_meets_121 : decode cX8_meets 121 = .ok (.ladd, 1) := by decide +kernel
theorem dX8_meets_122 : decode cX8_meets 122 = .ok (.putfield 151, 3) := by decide +kernel
theorem dX8_meets_125 : decode cX8_meets 125 = .ok (.return_, 1) := by decide +kernel
theorem dX8_meets_126 : decode cX8_meets 126 = .ok (.iload_n 3, 1) := by decide +kernel
theorem dX8_meets_127 : decode cX8_meets 127 = .ok (.aload_n 0, 1) := by decide +kernel
theorem dX8_meets_128 : decode cX8_meets 128 = .ok (.getfield 13, 3) := by decide +kernel
theorem dX8_meets_131 : decode cX8_meets 131 = .ok (.if_icmp .le 32, 3) := by decide +kernel
theorem dX8_meets_134 : decode cX8_meets 134 = .ok (.aload_n 0, 1) := by decide +kernel
theorem dX8_meets_135 : decode cX8_meets 135 = .ok (.getfield 26, 3) := by decide +kernel
theorem dX8_meets_138 : decode cX8_meets 138 = .ok (.iload 4, 2) := by decide +kernel
theorem dX8_meets_140 : decode cX8_meets 140 = .ok (.iaload, 1) := by decide +kernel
theorem dX8_meets_141 : decode cX8_meets 141 = .ok (.iconst 1, 1) := by decide +kernel
theorem dX8_meets_142 : decode cX8_meets 142 = .ok (.if_icmp .le 21, 3) := by decide +kernel
theorem dX8_meets_145 : decode cX8_meets 145 = .ok (.aload_n 0, 1) := by decide +kernel
theorem dX8_meets_146 : decode cX8_meets 146 = .ok (.getfield 81, 3) := by decide +kernel
theorem dX8_meets_149 : decode cX8_meets 149 = .ok (.bipush 80, 2) := by decide +kernel
theorem dX8_meets_151 : decode cX8_meets 151 = .ok (.if_icmp .ge 12, 3) := by decide +kernel
theorem dX8_meets_154 : decode cX8_meets 154 = .ok (.aload_n 0, 1) := by decide +kernel
theorem dX8_meets_155 : decode cX8_meets 155 = .ok (.iload 4, 2) := by decide +kernel
theorem dX8_meets_157 : decode cX8_meets 157 = .ok (.invokevirtual 154, 3) := by decide +kernel
theorem dX8_meets_160 : decode cX8_meets 160 = .ok (.goto 9, 3) := by decide +kernel
theorem dX8_meets_163 : decode cX8_meets 163 = .ok (.aload_n 0, 1) := by decide +kernel
theorem dX8_meets_164 : decode cX8_meets 164 = .ok (.iload_n 1, 1) := by decide +kernel
theorem dX8_meets_165 : decode cX8_meets 165 = .ok (.iload_n 2, 1) := by decide +kernel
theorem dX8_meets_166 : decode cX8_meets 166 = .ok (.invokevirtual 158, 3) := by decide +kernel
theorem dX8_meets_169 : decode cX8_meets 169 = .ok (.aload_n 0, 1) := by decide +kernel
theorem dX8_meets_170 : decode cX8_meets 170 = .ok (.dup, 1) := by decide +kernel
theorem dX8_meets_171 : decode cX8_meets 171 = .ok (.getfield 151, 3) := by decide +kernel
theorem dX8_meets_174 : decode cX8_meets 174 = .ok (.lload 5, 2) := by decide +kernel
theorem dX8_meets_176 : decode cX8_meets 176 = .ok (.aload_n 0, 1) := by decide +kernel
theorem dX8_meets_177 : decode cX8_meets 177 = .ok (.iload_n 1, 1) := by decide +kernel
theorem dX8_meets_178 : decode cX8_meets 178 = .ok (.invokevirtual 125, 3) := by decide +kernel
theorem dX8_meets_181 : decode cX8_meets 181 = .ok (.lsub, 1) := by decide +kernel
theorem dX8_meets_182 : decode cX8_meets 182 = .ok (.aload_n 0, 1) := by decide +kernel
theorem dX8_meets_183 : decode cX8_meets 183 = .ok (.iload_n 2, 1) := by decide +kernel
theorem dX8_meets_184 : decode cX8_meets 184 = .ok (.invokevirtual 125, 3) := by decide +kernel
theorem dX8_meets_187 : decode cX8_meets 187 = .ok (.lsub, 1) := by decide +kernel
theorem dX8_meets_188 : decode cX8_meets 188 = .ok (.aload_n 0, 1) := by decide +kernel
theorem dX8_meets_189 : decode cX8_meets 189 = .ok (.getfield 81, 3) := by decide +kernel
theorem dX8_meets_192 : decode cX8_meets 192 = .ok (.iload 7, 2) := by decide +kernel
theorem dX8_meets_194 : decode cX8_meets 194 = .ok (.if_icmp .le 12, 3) := by decide +kernel
theorem dX8_meets_197 : decode cX8_meets 197 = .ok (.aload_n 0, 1) := by decide +kernel
theorem dX8_meets_198 : decode cX8_meets 198 = .ok (.iload 7, 2) := by decide +kernel
theorem dX8_meets_200 : decode cX8_meets 200 = .ok (.invokevirtual 125, 3) := by decide +kernel
theorem dX8_meets_203 : decode cX8_meets 203 = .ok (.goto 4, 3) := by decide +kernel
theorem dX8_meets_206 : decode cX8_meets 206 = .ok (.lconst 0, 1) := by decide +kernel
theorem dX8_meets_207 : decode cX8_meets 207 = .ok (.lsub, 1) := by decide +kernel
theorem dX8_meets_208 : decode cX8_meets 208 = .ok (.ladd, 1) := by decide +kernel
theorem dX8_meets_209 : decode cX8_meets 209 = .ok (.putfield 151, 3) := by decide +kernel
theorem dX8_meets_212 : decode cX8_meets 212 = .ok (.return_, 1) := by decide +kernel
theorem dX8_canMeet_0 : decode cX8_canMeet 0 = .ok (.aload_n 0, 1) := by decide +kernel
theorem dX8_canMeet_1 : decode cX8_canMeet 1 = .ok (.getfield 35, 3) := by decide +kernel
theorem dX8_canMeet_4 : decode cX8_canMeet 4 = .ok (.iload_n 1, 1) := by decide +kernel
theorem dX8_canMeet_5 : decode cX8_canMeet 5 = .ok (.baload, 1) := by decide +kernel
theorem dX8_canMeet_6 : decode cX8_canMeet 6 = .ok (.ifCond .eq 34, 3) := by decide +kernel
theorem dX8_canMeet_9 : decode cX8_canMeet 9 = .ok (.aload_n 0, 1) := by decide +kernel
theorem dX8_canMeet_10 : decode cX8_canMeet 10 = .ok (.getfield 35, 3) := by decide +kernel
theorem dX8_canMeet_13 : decode cX8_canMeet 13 = .ok (.iload_n 2, 1) := by decide +kernel
theorem dX8_canMeet_14 : decode cX8_canMeet 14 = .ok (.baload, 1) := by decide +kernel
theorem dX8_canMeet_15 : decode cX8_canMeet 15 = .ok (.ifCond .eq 25, 3) := by decide +kernel
theorem dX8_canMeet_18 : decode cX8_canMeet 18 = .ok (.aload_n 0, 1) := by decide +kernel
theorem dX8_canMeet_19 : decode cX8_canMeet 19 = .ok (.getfield 39, 3) := by decide +kernel
theorem dX8_canMeet_22 : decode cX8_canMeet 22 = .ok (.iload_n 1, 1) := by decide +kernel
theorem dX8_canMeet_23 : decode cX8_canMeet 23 = .ok (.baload, 1) := by decide +kernel
theorem dX8_canMeet_24 : decode cX8_canMeet 24 = .ok (.ifCond .ne 16, 3) := by decide +kernel
theorem dX8_canMeet_27 : decode cX8_canMeet 27 = .ok (.aload_n 0, 1) := by decide +kernel
theorem dX8_canMeet_28 : decode cX8_canMeet 28 = .ok (.getfield 39, 3) := by decide +kernel
theorem dX8_canMeet_31 : decode cX8_canMeet 31 = .ok (.iload_n 2, 1) := by decide +kernel
theorem dX8_canMeet_32 : decode cX8_canMeet 32 = .ok (.baload, 1) := by decide +kernel
theorem dX8_canMeet_33 : decode cX8_canMeet 33 = .ok (.ifCond .ne 7, 3) := by decide +kernel
theorem dX8_canMeet_36 : decode cX8_canMeet 36 = .ok (.iconst 1, 1) := by decide +kernel
theorem dX8_canMeet_37 : decode cX8_canMeet 37 = .ok (.goto 4, 3) := by decide +kernel
theorem dX8_canMeet_40 : decode cX8_canMeet 40 = .ok (.iconst 0, 1) := by decide +kernel
theorem dX8_canMeet_41 : decode cX8_canMeet 41 = .ok (.istore_n 3, 1) := by decide +kernel
theorem dX8_canMeet_42 : decode cX8_canMeet 42 = .ok (.iload_n 3, 1) := by decide +kernel
theorem dX8_canMeet_43 : decode cX8_canMeet 43 = .ok (.ifCond .eq 47, 3) := by decide +kernel
theorem dX8_canMeet_46 : decode cX8_canMeet 46 = .ok (.aload_n 0, 1) := by decide +kernel
theorem dX8_canMeet_47 : decode cX8_canMeet 47 = .ok (.getfield 19, 3) := by decide +kernel
theorem dX8_canMeet_50 : decode cX8_canMeet 50 = .ok (.iload_n 1, 1) := by decide +kernel
theorem dX8_canMeet_51 : decode cX8_canMeet 51 = .ok (.iaload, 1) := by decide +kernel
theorem dX8_canMeet_52 : decode cX8_canMeet 52 = .ok (.aload_n 0, 1) := by decide +kernel
theorem dX8_canMeet_53 : decode cX8_canMeet 53 = .ok (.getfield 19, 3) := by decide +kernel
theorem dX8_canMeet_56 : decode cX8_canMeet 56 = .ok (.iload_n 2, 1) := by decide +kernel
theorem dX8_canMeet_57 : decode cX8_canMeet 57 = .ok (.iaload, 1) := by decide +kernel
theorem dX8_canMeet_58 : decode cX8_canMeet 58 = .ok (.isub, 1) := by decide +kernel
theorem dX8_canMeet_59 : decode cX8_canMeet 59 = .ok (.invokestatic 102, 3) := by decide +kernel
theorem dX8_canMeet_62 : decode cX8_canMeet 62 = .ok (.iconst 1, 1) := by decide +kernel
theorem dX8_canMeet_63 : decode cX8_canMeet 63 = .ok (.if_icmp .gt 27, 3) := by decide +kernel
theorem dX8_canMeet_66 : decode cX8_canMeet 66 = .ok (.aload_n 0, 1) := by decide +kernel
theorem dX8_canMeet_67 : decode cX8_canMeet 67 = .ok (.getfield 23, 3) := by decide +kernel
theorem dX8_canMeet_70 : decode cX8_canMeet 70 = .ok (.iload_n 1, 1) := by decide +kernel
theorem dX8_canMeet_71 : decode cX8_canMeet 71 = .ok (.iaload, 1) := by decide +kernel
theorem dX8_canMeet_72 : decode cX8_canMeet 72 = .ok (.aload_n 0, 1) := by decide +kernel
theorem dX8_canMeet_73 : decode cX8_canMeet 73 = .ok (.getfield 23, 3) := by decide +kernel
theorem dX8_canMeet_76 : decode cX8_canMeet 76 = .ok (.iload_n 2, 1) := by decide +kernel
theorem dX8_canMeet_77 : decode cX8_canMeet 77 = .ok (.iaload, 1) := by decide +kernel
theorem dX8_canMeet_78 : decode cX8_canMeet 78 = .ok (.invokestatic 121, 3) := by decide +kernel
theorem dX8_canMeet_81 : decode cX8_canMeet 81 = .ok (.bipush 100, 2) := by decide +kernel
theorem dX8_canMeet_83 : decode cX8_canMeet 83 = .ok (.if_icmp .gt 7, 3) := by decide +kernel
theorem dX8_canMeet_86 : decode cX8_canMeet 86 = .ok (.iconst 1, 1) := by decide +kernel
theorem dX8_canMeet_87 : decode cX8_canMeet 87 = .ok (.goto 4, 3) := by decide +kernel
theorem dX8_canMeet_90 : decode cX8_canMeet 90 = .ok (.iconst 0, 1) := by decide +kernel
theorem dX8_canMeet_91 : decode cX8_canMeet 91 = .ok (.ireturn, 1) := by decide +kernel
theorem dX8_goOn_0 : decode cX8_goOn 0 = .ok (.iconst 0, 1) := by decide +kernel
theorem dX8_goOn_1 : decode cX8_goOn 1 = .ok (.istore_n 1, 1) := by decide +kernel
theorem dX8_goOn_2 : decode cX8_goOn 2 = .ok (.iload_n 1, 1) := by decide +kernel
theorem dX8_goOn_3 : decode cX8_goOn 3 = .ok (.aload_n 0, 1) := by decide +kernel
theorem dX8_goOn_4 : decode cX8_goOn 4 = .ok (.getfield 81, 3) := by decide +kernel
theorem dX8_goOn_7 : decode cX8_goOn 7 = .ok (.if_icmp .ge 60, 3) := by decide +kernel
theorem dX8_goOn_10 : decode cX8_goOn 10 = .ok (.aload_n 0, 1) := by decide +kernel
theorem dX8_goOn_11 : decode cX8_goOn 11 = .ok (.getfield 23, 3) := by decide +kernel
theorem dX8_goOn_14 : decode cX8_goOn 14 = .ok (.iload_n 1, 1) := by decide +kernel
theorem dX8_goOn_15 : decode cX8_goOn 15 = .ok (.aload_n 0, 1) := by decide +kernel
theorem dX8_goOn_16 : decode cX8_goOn 16 = .ok (.getfield 35, 3) := by decide +kernel
theorem dX8_goOn_19 : decode cX8_goOn 19 = .ok (.iload_n 1, 1) := by decide +kernel
theorem dX8_goOn_20 : decode cX8_goOn 20 = .ok (.baload, 1) := by decide +kernel
theorem dX8_goOn_21 : decode cX8_goOn 21 = .ok (.ifCond .eq 26, 3) := by decide +kernel
theorem dX8_goOn_24 : decode cX8_goOn 24 = .ok (.aload_n 0, 1) := by decide +kernel
theorem dX8_goOn_25 : decode cX8_goOn 25 = .ok (.getfield 23, 3) := by decide +kernel
theorem dX8_goOn_28 : decode cX8_goOn 28 = .ok (.iload_n 1, 1) := by decide +kernel
theorem dX8_goOn_29 : decode cX8_goOn 29 = .ok (.iaload, 1) := by decide +kernel
theorem dX8_goOn_30 : decode cX8_goOn 30 = .ok (.aload_n 0, 1) := by decide +kernel
theorem dX8_goOn_31 : decode cX8_goOn 31 = .ok (.aload_n 0, 1) := by decide +kernel
theorem dX8_goOn_32 : decode cX8_goOn 32 = .ok (.getfield 19, 3) := by decide +kernel
theorem dX8_goOn_35 : decode cX8_goOn 35 = .ok (.iload_n 1, 1) := by decide +kernel
theorem dX8_goOn_36 : decode cX8_goOn 36 = .ok (.iaload, 1) := by decide +kernel
theorem dX8_goOn_37 : decode cX8_goOn 37 = .ok (.invokevirtual 145, 3) := by decide +kernel
theorem dX8_goOn_40 : decode cX8_goOn 40 = .ok (.iadd, 1) := by decide +kernel
theorem dX8_goOn_41 : decode cX8_goOn 41 = .ok (.ldc 101, 2) := by decide +kernel
theorem dX8_goOn_43 : decode cX8_goOn 43 = .ok (.irem, 1) := by decide +kernel
theorem dX8_goOn_44 : decode cX8_goOn 44 = .ok (.goto 9, 3) := by decide +kernel
theorem dX8_goOn_47 : decode cX8_goOn 47 = .ok (.aload_n 0, 1) := by decide +kernel
theorem dX8_goOn_48 : decode cX8_goOn 48 = .ok (.getfield 23, 3) := by decide +kernel
theorem dX8_goOn_51 : decode cX8_goOn 51 = .ok (.iload_n 1, 1) := by decide +kernel
theorem dX8_goOn_52 : decode cX8_goOn 52 = .ok (.iaload, 1) := by decide +kernel
theorem dX8_goOn_53 : decode cX8_goOn 53 = .ok (.iastore, 1) := by decide +kernel
theorem dX8_goOn_54 : decode cX8_goOn 54 = .ok (.aload_n 0, 1) := by decide +kernel
theorem dX8_goOn_55 : decode cX8_goOn 55 = .ok (.getfield 39, 3) := by decide +kernel
theorem dX8_goOn_58 : decode cX8_goOn 58 = .ok (.iload_n 1, 1) := by decide +kernel
theorem dX8_goOn_59 : decode cX8_goOn 59 = .ok (.iconst 0, 1) := by decide +kernel
theorem dX8_goOn_60 : decode cX8_goOn 60 = .ok (.bastore, 1) := by decide +kernel
theorem dX8_goOn_61 : decode cX8_goOn 61 = .ok (.iinc 1 1, 3) := by decide +kernel
theorem dX8_goOn_64 : decode cX8_goOn 64 = .ok (.goto (-62), 3) := by decide +kernel
theorem dX8_goOn_67 : decode cX8_goOn 67 = .ok (.iconst 0, 1) := by decide +kernel
theorem dX8_goOn_68 : decode cX8_goOn 68 = .ok (.istore_n 1, 1) := by decide +kernel
theorem dX8_goOn_69 : decode cX8_goOn 69 = .ok (.iload_n 1, 1) := by decide +kernel
theorem dX8_goOn_70 : decode cX8_goOn 70 = .ok (.aload_n 0, 1) := by decide +kernel
theorem dX8_goOn_71 : decode cX8_goOn 71 = .ok (.getfield 95, 3) := by decide +kernel
theorem dX8_goOn_74 : decode cX8_goOn 74 = .ok (.if_icmp .ge 35, 3) := by decide +kernel
theorem dX8_goOn_77 : decode cX8_goOn 77 = .ok (.aload_n 0, 1) := by decide +kernel
theorem dX8_goOn_78 : decode cX8_goOn 78 = .ok (.getfield 45, 3) := by decide +kernel
theorem dX8_goOn_81 : decode cX8_goOn 81 = .ok (.iload_n 1, 1) := by decide +kernel
theorem dX8_goOn_82 : decode cX8_goOn 82 = .ok (.aload_n 0, 1) := by decide +kernel
theorem dX8_goOn_83 : decode cX8_goOn 83 = .ok (.getfield 45, 3) := by decide +kernel
theorem dX8_goOn_86 : decode cX8_goOn 86 = .ok (.iload_n 1, 1) := by decide +kernel
theorem dX8_goOn_87 : decode cX8_goOn 87 = .ok (.iaload, 1) := by decide +kernel
theorem dX8_goOn_88 : decode cX8_goOn 88 = .ok (.aload_n 0, 1) := by decide +kernel
theorem dX8_goOn_89 : decode cX8_goOn 89 = .ok (.aload_n 0, 1) := by decide +kernel
theorem dX8_goOn_90 : decode cX8_goOn 90 = .ok (.getfield 42, 3) := by decide +kernel
theorem dX8_goOn_93 : decode cX8_goOn 93 = .ok (.iload_n 1, 1) := by decide +kernel
theorem dX8_goOn_94 : decode cX8_goOn 94 = .ok (.iaload, 1) := by decide +kernel
theorem dX8_goOn_95 : decode cX8_goOn 95 = .ok (.invokevirtual 145, 3) := by decide +kernel
theorem dX8_goOn_98 : decode cX8_goOn 98 = .ok (.iadd, 1) := by decide +kernel
theorem dX8_goOn_99 : decode cX8_goOn 99 = .ok (.ldc 101, 2) := by decide +kernel
theorem dX8_goOn_101 : decode cX8_goOn 101 = .ok (.irem, 1) := by decide +kernel
theorem dX8_goOn_102 : decode cX8_goOn 102 = .ok (.iastore, 1) := by decide +kernel
theorem dX8_goOn_103 : decode cX8_goOn 103 = .ok (.iinc 1 1, 3) := by decide +kernel
theorem dX8_goOn_106 : decode cX8_goOn 106 = .ok (.goto (-37), 3) := by decide +kernel
theorem dX8_goOn_109 : decode cX8_goOn 109 = .ok (.iconst 0, 1) := by decide +kernel
theorem dX8_goOn_110 : decode cX8_goOn 110 = .ok (.istore_n 1, 1) := by decide +kernel
theorem dX8_goOn_111 : decode cX8_goOn 111 = .ok (.iload_n 1, 1) := by decide +kernel
theorem dX8_goOn_112 : decode cX8_goOn 112 = .ok (.aload_n 0, 1) := by decide +kernel
theorem dX8_goOn_113 : decode cX8_goOn 113 = .ok (.getfield 95, 3) := by decide +kernel
theorem dX8_goOn_116 : decode cX8_goOn 116 = .ok (.if_icmp .ge 14, 3) := by decide +kernel
theorem dX8_goOn_119 : decode cX8_goOn 119 = .ok (.aload_n 0, 1) := by decide +kernel
theorem dX8_goOn_120 : decode cX8_goOn 120 = .ok (.iload_n 1, 1) := by decide +kernel
theorem dX8_goOn_121 : decode cX8_goOn 121 = .ok (.invokevirtual 161, 3) := by decide +kernel
theorem dX8_goOn_124 : decode cX8_goOn 124 = .ok (.iinc 1 1, 3) := by decide +kernel
theorem dX8_goOn_127 : decode cX8_goOn 127 = .ok (.goto (-16), 3) := by decide +kernel
theorem dX8_goOn_130 : decode cX8_goOn 130 = .ok (.iconst 0, 1) := by decide +kernel
theorem dX8_goOn_131 : decode cX8_goOn 131 = .ok (.istore_n 1, 1) := by decide +kernel
theorem dX8_goOn_132 : decode cX8_goOn 132 = .ok (.iload_n 1, 1) := by decide +kernel
theorem dX8_goOn_133 : decode cX8_goOn 133 = .ok (.aload_n 0, 1) := by decide +kernel
theorem dX8_goOn_134 : decode cX8_goOn 134 = .ok (.getfield 81, 3) := by decide +kernel
theorem dX8_goOn_137 : decode cX8_goOn 137 = .ok (.if_icmp .ge 42, 3) := by decide +kernel
theorem dX8_goOn_140 : decode cX8_goOn 140 = .ok (.iload_n 1, 1) := by decide +kernel
theorem dX8_goOn_141 : decode cX8_goOn 141 = .ok (.iconst 1, 1) := by decide +kernel
theorem dX8_goOn_142 : decode cX8_goOn 142 = .ok (.iadd, 1) := by decide +kernel
theorem dX8_goOn_143 : decode cX8_goOn 143 = .ok (.istore_n 2, 1) := by decide +kernel
theorem dX8_goOn_144 : decode cX8_goOn 144 = .ok (.iload_n 2, 1) := by decide +kernel
theorem dX8_goOn_145 : decode cX8_goOn 145 = .ok (.aload_n 0, 1) := by decide +kernel
theorem dX8_goOn_146 : decode cX8_goOn 146 = .ok (.getfield 81, 3) := by decide +kernel
theorem dX8_goOn_149 : decode cX8_goOn 149 = .ok (.if_icmp .ge 24, 3) := by decide +kernel
theorem dX8_goOn_152 : decode cX8_goOn 152 = .ok (.aload_n 0, 1) := by decide +kernel
theorem dX8_goOn_153 : decode cX8_goOn 153 = .ok (.iload_n 1, 1) := by decide +kernel
theorem dX8_goOn_154 : decode cX8_goOn 154 = .ok (.iload_n 2, 1) := by decide +kernel
theorem dX8_goOn_155 : decode cX8_goOn 155 = .ok (.invokevirtual 164, 3) := by decide +kernel
theorem dX8_goOn_158 : decode cX8_goOn 158 = .ok (.ifCond .eq 9, 3) := by decide +kernel
theorem dX8_goOn_161 : decode cX8_goOn 161 = .ok (.aload_n 0, 1) := by decide +kernel
theorem dX8_goOn_162 : decode cX8_goOn 162 = .ok (.iload_n 1, 1) := by decide +kernel
theorem dX8_goOn_163 : decode cX8_goOn 163 = .ok (.iload_n 2, 1) := by decide +kernel
theorem dX8_goOn_164 : decode cX8_goOn 164 = .ok (.invokevirtual 168, 3) := by decide +kernel
theorem dX8_goOn_167 : decode cX8_goOn 167 = .ok (.iinc 2 1, 3) := by decide +kernel
theorem dX8_goOn_170 : decode cX8_goOn 170 = .ok (.goto (-26), 3) := by decide +kernel
theorem dX8_goOn_173 : decode cX8_goOn 173 = .ok (.iinc 1 1, 3) := by decide +kernel
theorem dX8_goOn_176 : decode cX8_goOn 176 = .ok (.goto (-44), 3) := by decide +kernel
theorem dX8_goOn_179 : decode cX8_goOn 179 = .ok (.iconst 0, 1) := by decide +kernel
theorem dX8_goOn_180 : decode cX8_goOn 180 = .ok (.istore_n 1, 1) := by decide +kernel
theorem dX8_goOn_181 : decode cX8_goOn 181 = .ok (.iload_n 1, 1) := by decide +kernel
theorem dX8_goOn_182 : decode cX8_goOn 182 = .ok (.aload_n 0, 1) := by decide +kernel
theorem dX8_goOn_183 : decode cX8_goOn 183 = .ok (.getfield 81, 3) := by decide +kernel
theorem dX8_goOn_186 : decode cX8_goOn 186 = .ok (.if_icmp .ge 44, 3) := by decide +kernel
theorem dX8_goOn_189 : decode cX8_goOn 189 = .ok (.aload_n 0, 1) := by decide +kernel
theorem dX8_goOn_190 : decode cX8_goOn 190 = .ok (.getfield 32, 3) := by decide +kernel
theorem dX8_goOn_193 : decode cX8_goOn 193 = .ok (.iload_n 1, 1) := by decide +kernel
theorem dX8_goOn_194 : decode cX8_goOn 194 = .ok (.dup2, 1) := by decide +kernel
theorem dX8_goOn_195 : decode cX8_goOn 195 = .ok (.iaload, 1) := by decide +kernel
theorem dX8_goOn_196 : decode cX8_goOn 196 = .ok (.aload_n 0, 1) := by decide +kernel
theorem dX8_goOn_197 : decode cX8_goOn 197 = .ok (.getfield 35, 3) := by decide +kernel
theorem dX8_goOn_200 : decode cX8_goOn 200 = .ok (.iload_n 1, 1) := by decide +kernel
theorem dX8_goOn_201 : decode cX8_goOn 201 = .ok (.baload, 1) := by decide +kernel
theorem dX8_goOn_202 : decode cX8_goOn 202 = .ok (.ifCond .eq 19, 3) := by decide +kernel
theorem dX8_goOn_205 : decode cX8_goOn 205 = .ok (.aload_n 0, 1) := by decide +kernel
theorem dX8_goOn_206 : decode cX8_goOn 206 = .ok (.getfield 32, 3) := by decide +kernel
theorem dX8_goOn_209 : decode cX8_goOn 209 = .ok (.iload_n 1, 1) := by decide +kernel
theorem dX8_goOn_210 : decode cX8_goOn 210 = .ok (.iaload, 1) := by decide +kernel
theorem dX8_goOn_211 : decode cX8_goOn 211 = .ok (.sipush 1000, 3) := by decide +kernel
theorem dX8_goOn_214 : decode cX8_goOn 214 = .ok (.if_icmp .ge 7, 3) := by decide +kernel
theorem dX8_goOn_217 : decode cX8_goOn 217 = .ok (.iconst 1, 1) := by decide +kernel
theorem dX8_goOn_218 : decode cX8_goOn 218 = .ok (.goto 4, 3) := by decide +kernel
theorem dX8_goOn_221 : decode cX8_goOn 221 = .ok (.iconst 0, 1) := by decide +kernel
theorem dX8_goOn_222 : decode cX8_goOn 222 = .ok (.iadd, 1) := by decide +kernel
theorem dX8_goOn_223 : decode cX8_goOn 223 = .ok (.iastore, 1) := by decide +kernel
theorem dX8_goOn_224 : decode cX8_goOn 224 = .ok (.iinc 1 1, 3) := by decide +kernel
theorem dX8_goOn_227 : decode cX8_goOn 227 = .ok (.goto (-46), 3) := by decide +kernel
theorem dX8_goOn_230 : decode cX8_goOn 230 = .ok (.aload_n 0, 1) := by decide +kernel
theorem dX8_goOn_231 : decode cX8_goOn 231 = .ok (.dup, 1) := by decide +kernel
theorem dX8_goOn_232 : decode cX8_goOn 232 = .ok (.getfield 171, 3) := by decide +kernel
theorem dX8_goOn_235 : decode cX8_goOn 235 = .ok (.iconst 1, 1) := by decide +kernel
theorem dX8_goOn_236 : decode cX8_goOn 236 = .ok (.iadd, 1) := by decide +kernel
theorem dX8_goOn_237 : decode cX8_goOn 237 = .ok (.putfield 171, 3) := by decide +kernel
theorem dX8_goOn_240 : decode cX8_goOn 240 = .ok (.return_, 1) := by decide +kernel
theorem dX8_tick_0 : decode cX8_tick 0 = .ok (.aload_n 0, 1) := by decide +kernel
theorem dX8_tick_1 : decode cX8_tick 1 = .ok (.iload_n 1, 1) := by decide +kernel
theorem dX8_tick_2 : decode cX8_tick 2 = .ok (.iconst 1, 1) := by decide +kernel
theorem dX8_tick_3 : decode cX8_tick 3 = .ok (.bipush 50, 2) := by decide +kernel
theorem dX8_tick_5 : decode cX8_tick 5 = .ok (.invokestatic 72, 3) := by decide +kernel
theorem dX8_tick_8 : decode cX8_tick 8 = .ok (.ifCond .ne 7, 3) := by decide +kernel
theorem dX8_tick_11 : decode cX8_tick 11 = .ok (.iconst 1, 1) := by decide +kernel
theorem dX8_tick_12 : decode cX8_tick 12 = .ok (.goto 20, 3) := by decide +kernel
theorem dX8_tick_15 : decode cX8_tick 15 = .ok (.aload_n 0, 1) := by decide +kernel
theorem dX8_tick_16 : decode cX8_tick 16 = .ok (.getfield 171, 3) := by decide +kernel
theorem dX8_tick_19 : decode cX8_tick 19 = .ok (.iload_n 1, 1) := by decide +kernel
theorem dX8_tick_20 : decode cX8_tick 20 = .ok (.iadd, 1) := by decide +kernel
theorem dX8_tick_21 : decode cX8_tick 21 = .ok (.sipush 2000, 3) := by decide +kernel
theorem dX8_tick_24 : decode cX8_tick 24 = .ok (.if_icmp .le 7, 3) := by decide +kernel
theorem dX8_tick_27 : decode cX8_tick 27 = .ok (.iconst 2, 1) := by decide +kernel
theorem dX8_tick_28 : decode cX8_tick 28 = .ok (.goto 4, 3) := by decide +kernel
theorem dX8_tick_31 : decode cX8_tick 31 = .ok (.iconst 0, 1) := by decide +kernel
theorem dX8_tick_32 : decode cX8_tick 32 = .ok (.putfield 69, 3) := by decide +kernel
theorem dX8_tick_35 : decode cX8_tick 35 = .ok (.aload_n 0, 1) := by decide +kernel
theorem dX8_tick_36 : decode cX8_tick 36 = .ok (.getfield 69, 3) := by decide +kernel
theorem dX8_tick_39 : decode cX8_tick 39 = .ok (.ifCond .le 5, 3) := by decide +kernel
theorem dX8_tick_42 : decode cX8_tick 42 = .ok (.iconst 0, 1) := by decide +kernel
theorem dX8_tick_43 : decode cX8_tick 43 = .ok (.ireturn, 1) := by decide +kernel
theorem dX8_tick_44 : decode cX8_tick 44 = .ok (.iconst 0, 1) := by decide +kernel
theorem dX8_tick_45 : decode cX8_tick 45 = .ok (.istore_n 2, 1) := by decide +kernel
theorem dX8_tick_46 : decode cX8_tick 46 = .ok (.iload_n 2, 1) := by decide +kernel
theorem dX8_tick_47 : decode cX8_tick 47 = .ok (.iload_n 1, 1) := by decide +kernel
theorem dX8_tick_48 : decode cX8_tick 48 = .ok (.if_icmp .ge 13, 3) := by decide +kernel
theorem dX8_tick_51 : decode cX8_tick 51 = .ok (.aload_n 0, 1) := by decide +kernel
theorem dX8_tick_52 : decode cX8_tick 52 = .ok (.invokevirtual 174, 3) := by decide +kernel
theorem dX8_tick_55 : decode cX8_tick 55 = .ok (.iinc 2 1, 3) := by decide +kernel
theorem dX8_tick_58 : decode cX8_tick 58 = .ok (.goto (-12), 3) := by decide +kernel
theorem dX8_tick_61 : decode cX8_tick 61 = .ok (.aload_n 0, 1) := by decide +kernel
theorem dX8_tick_62 : decode cX8_tick 62 = .ok (.getfield 171, 3) := by decide +kernel
theorem dX8_tick_65 : decode cX8_tick 65 = .ok (.ireturn, 1) := by decide +kernel
theorem dX8_massOf_0 : decode cX8_massOf 0 = .ok (.iconst 0, 1) := by decide +kernel
theorem dX8_massOf_1 : decode cX8_massOf 1 = .ok (.istore_n 2, 1) := by decide +kernel
theorem dX8_massOf_2 : decode cX8_massOf 2 = .ok (.iconst 0, 1) := by decide +kernel
theorem dX8_massOf_3 : decode cX8_massOf 3 = .ok (.istore_n 3, 1) := by decide +kernel
theorem dX8_massOf_4 : decode cX8_massOf 4 = .ok (.iload_n 3, 1) := by decide +kernel
theorem dX8_massOf_5 : decode cX8_massOf 5 = .ok (.aload_n 0, 1) := by decide +kernel
theorem dX8_massOf_6 : decode cX8_massOf 6 = .ok (.getfield 81, 3) := by decide +kernel
theorem dX8_massOf_9 : decode cX8_massOf 9 = .ok (.if_icmp .ge 41, 3) := by decide +kernel
theorem dX8_massOf_12 : decode cX8_massOf 12 = .ok (.iload_n 2, 1) := by decide +kernel
theorem dX8_massOf_13 : decode cX8_massOf 13 = .ok (.aload_n 0, 1) := by decide +kernel
theorem dX8_massOf_14 : decode cX8_massOf 14 = .ok (.getfield 35, 3) := by decide +kernel
theorem dX8_massOf_17 : decode cX8_massOf 17 = .ok (.iload_n 3, 1) := by decide +kernel
theorem dX8_massOf_18 : decode cX8_massOf 18 = .ok (.baload, 1) := by decide +kernel
theorem dX8_massOf_19 : decode cX8_massOf 19 = .ok (.ifCond .eq 22, 3) := by decide +kernel
theorem dX8_massOf_22 : decode cX8_massOf 22 = .ok (.aload_n 0, 1) := by decide +kernel
theorem dX8_massOf_23 : decode cX8_massOf 23 = .ok (.getfield 19, 3) := by decide +kernel
theorem dX8_massOf_26 : decode cX8_massOf 26 = .ok (.iload_n 3, 1) := by decide +kernel
theorem dX8_massOf_27 : decode cX8_massOf 27 = .ok (.iaload, 1) := by decide +kernel
theorem dX8_massOf_28 : decode cX8_massOf 28 = .ok (.iload_n 1, 1) := by decide +kernel
theorem dX8_massOf_29 : decode cX8_massOf 29 = .ok (.if_icmp .ne 12, 3) := by decide +kernel
theorem dX8_massOf_32 : decode cX8_massOf 32 = .ok (.aload_n 0, 1) := by decide +kernel
theorem dX8_massOf_33 : decode cX8_massOf 33 = .ok (.getfield 26, 3) := by decide +kernel
theorem dX8_massOf_36 : decode cX8_massOf 36 = .ok (.iload_n 3, 1) := by decide +kernel
theorem dX8_massOf_37 : decode cX8_massOf 37 = .ok (.iaload, 1) := by decide +kernel
theorem dX8_massOf_38 : decode cX8_massOf 38 = .ok (.goto 4, 3) := by decide +kernel
theorem dX8_massOf_41 : decode cX8_massOf 41 = .ok (.iconst 0, 1) := by decide +kernel
theorem dX8_massOf_42 : decode cX8_massOf 42 = .ok (.iadd, 1) := by decide +kernel
theorem dX8_massOf_43 : decode cX8_massOf 43 = .ok (.istore_n 2, 1) := by decide +kernel
theorem dX8_massOf_44 : decode cX8_massOf 44 = .ok (.iinc 3 1, 3) := by decide +kernel
theorem dX8_massOf_47 : decode cX8_massOf 47 = .ok (.goto (-43), 3) := by decide +kernel
theorem dX8_massOf_50 : decode cX8_massOf 50 = .ok (.iload_n 2, 1) := by decide +kernel
theorem dX8_massOf_51 : decode cX8_massOf 51 = .ok (.ireturn, 1) := by decide +kernel
theorem dX8_frame_0 : decode cX8_frame 0 = .ok (.aload_n 0, 1) := by decide +kernel
theorem dX8_frame_1 : decode cX8_frame 1 = .ok (.aload_n 0, 1) := by decide +kernel
theorem dX8_frame_2 : decode cX8_frame 2 = .ok (.getfield 177, 3) := by decide +kernel
theorem dX8_frame_5 : decode cX8_frame 5 = .ok (.bipush 20, 2) := by decide +kernel
theorem dX8_frame_7 : decode cX8_frame 7 = .ok (.if_icmp .ne 7, 3) := by decide +kernel
theorem dX8_frame_10 : decode cX8_frame 10 = .ok (.iconst 1, 1) := by decide +kernel
theorem dX8_frame_11 : decode cX8_frame 11 = .ok (.goto 4, 3) := by decide +kernel
theorem dX8_frame_14 : decode cX8_frame 14 = .ok (.iconst 0, 1) := by decide +kernel
theorem dX8_frame_15 : decode cX8_frame 15 = .ok (.putfield 69, 3) := by decide +kernel
theorem dX8_frame_18 : decode cX8_frame 18 = .ok (.aload_n 0, 1) := by decide +kernel
theorem dX8_frame_19 : decode cX8_frame 19 = .ok (.getfield 69, 3) := by decide +kernel
theorem dX8_frame_22 : decode cX8_frame 22 = .ok (.ifCond .le 5, 3) := by decide +kernel
theorem dX8_frame_25 : decode cX8_frame 25 = .ok (.iconst 0, 1) := by decide +kernel
theorem dX8_frame_26 : decode cX8_frame 26 = .ok (.ireturn, 1) := by decide +kernel
theorem dX8_frame_27 : decode cX8_frame 27 = .ok (.iconst 0, 1) := by decide +kernel
theorem dX8_frame_28 : decode cX8_frame 28 = .ok (.istore_n 1, 1) := by decide +kernel
theorem dX8_frame_29 : decode cX8_frame 29 = .ok (.iload_n 1, 1) := by decide +kernel
theorem dX8_frame_30 : decode cX8_frame 30 = .ok (.bipush 64, 2) := by decide +kernel
theorem dX8_frame_32 : decode cX8_frame 32 = .ok (.if_icmp .ge 28, 3) := by decide +kernel
theorem dX8_frame_35 : decode cX8_frame 35 = .ok (.aload_n 0, 1) := by decide +kernel
theorem dX8_frame_36 : decode cX8_frame 36 = .ok (.getfield 51, 3) := by decide +kernel
theorem dX8_frame_39 : decode cX8_frame 39 = .ok (.bipush 64, 2) := by decide +kernel
theorem dX8_frame_41 : decode cX8_frame 41 = .ok (.aload_n 0, 1) := by decide +kernel
theorem dX8_frame_42 : decode cX8_frame 42 = .ok (.getfield 177, 3) := by decide +kernel
theorem dX8_frame_45 : decode cX8_frame 45 = .ok (.imul, 1) := by decide +kernel
theorem dX8_frame_46 : decode cX8_frame 46 = .ok (.iload_n 1, 1) := by decide +kernel
theorem dX8_frame_47 : decode cX8_frame 47 = .ok (.iadd, 1) := by decide +kernel
theorem dX8_frame_48 : decode cX8_frame 48 = .ok (.aload_n 0, 1) := by decide +kernel
theorem dX8_frame_49 : decode cX8_frame 49 = .ok (.iload_n 1, 1) := by decide +kernel
theorem dX8_frame_50 : decode cX8_frame 50 = .ok (.invokevirtual 180, 3) := by decide +kernel
theorem dX8_frame_53 : decode cX8_frame 53 = .ok (.iastore, 1) := by decide +kernel
theorem dX8_frame_54 : decode cX8_frame 54 = .ok (.iinc 1 1, 3) := by decide +kernel
theorem dX8_frame_57 : decode cX8_frame 57 = .ok (.goto (-28), 3) := by decide +kernel
theorem dX8_frame_60 : decode cX8_frame 60 = .ok (.aload_n 0, 1) := by decide +kernel
theorem dX8_frame_61 : decode cX8_frame 61 = .ok (.getfield 54, 3) := by decide +kernel
theorem dX8_frame_64 : decode cX8_frame 64 = .ok (.aload_n 0, 1) := by decide +kernel
theorem dX8_frame_65 : decode cX8_frame 65 = .ok (.getfield 177, 3) := by decide +kernel
theorem dX8_frame_68 : decode cX8_frame 68 = .ok (.aload_n 0, 1) := by decide +kernel
theorem dX8_frame_69 : decode cX8_frame 69 = .ok (.getfield 171, 3) := by decide +kernel
theorem dX8_frame_72 : decode cX8_frame 72 = .ok (.iastore, 1) := by decide +kernel
theorem dX8_frame_73 : decode cX8_frame 73 = .ok (.aload_n 0, 1) := by decide +kernel
theorem dX8_frame_74 : decode cX8_frame 74 = .ok (.dup, 1) := by decide +kernel
theorem dX8_frame_75 : decode cX8_frame 75 = .ok (.getfield 177, 3) := by decide +kernel
theorem dX8_frame_78 : decode cX8_frame 78 = .ok (.iconst 1, 1) := by decide +kernel
theorem dX8_frame_79 : decode cX8_frame 79 = .ok (.iadd, 1) := by decide +kernel
theorem dX8_frame_80 : decode cX8_frame 80 = .ok (.putfield 177, 3) := by decide +kernel
theorem dX8_frame_83 : decode cX8_frame 83 = .ok (.aload_n 0, 1) := by decide +kernel
theorem dX8_frame_84 : decode cX8_frame 84 = .ok (.getfield 177, 3) := by decide +kernel
theorem dX8_frame_87 : decode cX8_frame 87 = .ok (.iconst 1, 1) := by decide +kernel
theorem dX8_frame_88 : decode cX8_frame 88 = .ok (.isub, 1) := by decide +kernel
theorem dX8_frame_89 : decode cX8_frame 89 = .ok (.ireturn, 1) := by decide +kernel
theorem dX8_isFrame_0 : decode cX8_isFrame 0 = .ok (.iload_n 1, 1) := by decide +kernel
theorem dX8_isFrame_1 : decode cX8_isFrame 1 = .ok (.iconst 0, 1) := by decide +kernel
theorem dX8_isFrame_2 : decode cX8_isFrame 2 = .ok (.aload_n 0, 1) := by decide +kernel
theorem dX8_isFrame_3 : decode cX8_isFrame 3 = .ok (.getfield 177, 3) := by decide +kernel
theorem dX8_isFrame_6 : decode cX8_isFrame 6 = .ok (.iconst 1, 1) := by decide +kernel
theorem dX8_isFrame_7 : decode cX8_isFrame 7 = .ok (.isub, 1) := by decide +kernel
theorem dX8_isFrame_8 : decode cX8_isFrame 8 = .ok (.invokestatic 72, 3) := by decide +kernel
theorem dX8_isFrame_11 : decode cX8_isFrame 11 = .ok (.ireturn, 1) := by decide +kernel
theorem dX8_claim_0 : decode cX8_claim 0 = .ok (.iload_n 2, 1) := by decide +kernel
theorem dX8_claim_1 : decode cX8_claim 1 = .ok (.invokestatic 76, 3) := by decide +kernel
theorem dX8_claim_4 : decode cX8_claim 4 = .ok (.ifCond .eq 30, 3) := by decide +kernel
theorem dX8_claim_7 : decode cX8_claim 7 = .ok (.iload_n 3, 1) := by decide +kernel
theorem dX8_claim_8 : decode cX8_claim 8 = .ok (.invokestatic 76, 3) := by decide +kernel
theorem dX8_claim_11 : decode cX8_claim 11 = .ok (.ifCond .eq 23, 3) := by decide +kernel
theorem dX8_claim_14 : decode cX8_claim 14 = .ok (.iload_n 2, 1) := by decide +kernel
theorem dX8_claim_15 : decode cX8_claim 15 = .ok (.iload_n 3, 1) := by decide +kernel
theorem dX8_claim_16 : decode cX8_claim 16 = .ok (.if_icmp .gt 18, 3) := by decide +kernel
theorem dX8_claim_19 : decode cX8_claim 19 = .ok (.iload 4, 2) := by decide +kernel
theorem dX8_claim_21 : decode cX8_claim 21 = .ok (.iconst 0, 1) := by decide +kernel
theorem dX8_claim_22 : decode cX8_claim 22 = .ok (.ldc 183, 2) := by decide +kernel
theorem dX8_claim_24 : decode cX8_claim 24 = .ok (.invokestatic 72, 3) := by decide +kernel
theorem dX8_claim_27 : decode cX8_claim 27 = .ok (.ifCond .eq 7, 3) := by decide +kernel
theorem dX8_claim_30 : decode cX8_claim 30 = .ok (.iconst 1, 1) := by decide +kernel
theorem dX8_claim_31 : decode cX8_claim 31 = .ok (.goto 4, 3) := by decide +kernel
theorem dX8_claim_34 : decode cX8_claim 34 = .ok (.iconst 0, 1) := by decide +kernel
theorem dX8_claim_35 : decode cX8_claim 35 = .ok (.istore 5, 2) := by decide +kernel
theorem dX8_claim_37 : decode cX8_claim 37 = .ok (.aload_n 0, 1) := by decide +kernel
theorem dX8_claim_38 : decode cX8_claim 38 = .ok (.aload_n 0, 1) := by decide +kernel
theorem dX8_claim_39 : decode cX8_claim 39 = .ok (.iload_n 1, 1) := by decide +kernel
theorem dX8_claim_40 : decode cX8_claim 40 = .ok (.invokevirtual 184, 3) := by decide +kernel
theorem dX8_claim_43 : decode cX8_claim 43 = .ok (.ifCond .ne 7, 3) := by decide +kernel
theorem dX8_claim_46 : decode cX8_claim 46 = .ok (.iconst 1, 1) := by decide +kernel
theorem dX8_claim_47 : decode cX8_claim 47 = .ok (.goto 26, 3) := by decide +kernel
theorem dX8_claim_50 : decode cX8_claim 50 = .ok (.iload 5, 2) := by decide +kernel
theorem dX8_claim_52 : decode cX8_claim 52 = .ok (.ifCond .ne 7, 3) := by decide +kernel
theorem dX8_claim_55 : decode cX8_claim 55 = .ok (.iconst 2, 1) := by decide +kernel
theorem dX8_claim_56 : decode cX8_claim 56 = .ok (.goto 17, 3) := by decide +kernel
theorem dX8_claim_59 : decode cX8_claim 59 = .ok (.aload_n 0, 1) := by decide +kernel
theorem dX8_claim_60 : decode cX8_claim 60 = .ok (.getfield 187, 3) := by decide +kernel
theorem dX8_claim_63 : decode cX8_claim 63 = .ok (.bipush 40, 2) := by decide +kernel
theorem dX8_claim_65 : decode cX8_claim 65 = .ok (.if_icmp .ne 7, 3) := by decide +kernel
theorem dX8_claim_68 : decode cX8_claim 68 = .ok (.iconst 3, 1) := by decide +kernel
theorem dX8_claim_69 : decode cX8_claim 69 = .ok (.goto 4, 3) := by decide +kernel
theorem dX8_claim_72 : decode cX8_claim 72 = .ok (.iconst 0, 1) := by decide +kernel
theorem dX8_claim_73 : decode cX8_claim 73 = .ok (.putfield 69, 3) := by decide +kernel
theorem dX8_claim_76 : decode cX8_claim 76 = .ok (.aload_n 0, 1) := by decide +kernel
theorem dX8_claim_77 : decode cX8_claim 77 = .ok (.getfield 69, 3) := by decide +kernel
theorem dX8_claim_80 : decode cX8_claim 80 = .ok (.ifCond .le 5, 3) := by decide +kernel
theorem dX8_claim_83 : decode cX8_claim 83 = .ok (.iconst 0, 1) := by decide +kernel
theorem dX8_claim_84 : decode cX8_claim 84 = .ok (.ireturn, 1) := by decide +kernel
theorem dX8_claim_85 : decode cX8_claim 85 = .ok (.aload_n 0, 1) := by decide +kernel
theorem dX8_claim_86 : decode cX8_claim 86 = .ok (.getfield 57, 3) := by decide +kernel
theorem dX8_claim_89 : decode cX8_claim 89 = .ok (.aload_n 0, 1) := by decide +kernel
theorem dX8_claim_90 : decode cX8_claim 90 = .ok (.getfield 187, 3) := by decide +kernel
theorem dX8_claim_93 : decode cX8_claim 93 = .ok (.iload_n 1, 1) := by decide +kernel
theorem dX8_claim_94 : decode cX8_claim 94 = .ok (.iastore, 1) := by decide +kernel
theorem dX8_claim_95 : decode cX8_claim 95 = .ok (.aload_n 0, 1) := by decide +kernel
theorem dX8_claim_96 : decode cX8_claim 96 = .ok (.getfield 60, 3) := by decide +kernel
theorem dX8_claim_99 : decode cX8_claim 99 = .ok (.aload_n 0, 1) := by decide +kernel
theorem dX8_claim_100 : decode cX8_claim 100 = .ok (.getfield 187, 3) := by decide +kernel
theorem dX8_claim_103 : decode cX8_claim 103 = .ok (.iload_n 2, 1) := by decide +kernel
theorem dX8_claim_104 : decode cX8_claim 104 = .ok (.iastore, 1) := by decide +kernel
theorem dX8_claim_105 : decode cX8_claim 105 = .ok (.aload_n 0, 1) := by decide +kernel
theorem dX8_claim_106 : decode cX8_claim 106 = .ok (.getfield 63, 3) := by decide +kernel
theorem dX8_claim_109 : decode cX8_claim 109 = .ok (.aload_n 0, 1) := by decide +kernel
theorem dX8_claim_110 : decode cX8_claim 110 = .ok (.getfield 187, 3) := by decide +kernel
theorem dX8_claim_113 : decode cX8_claim 113 = .ok (.iload_n 3, 1) := by decide +kernel
theorem dX8_claim_114 : decode cX8_claim 114 = .ok (.iastore, 1) := by decide +kernel
theorem dX8_claim_115 : decode cX8_claim 115 = .ok (.aload_n 0, 1) := by decide +kernel
theorem dX8_claim_116 : decode cX8_claim 116 = .ok (.getfield 66, 3) := by decide +kernel
theorem dX8_claim_119 : decode cX8_claim 119 = .ok (.aload_n 0, 1) := by decide +kernel
theorem dX8_claim_120 : decode cX8_claim 120 = .ok (.getfield 187, 3) := by decide +kernel
theorem dX8_claim_123 : decode cX8_claim 123 = .ok (.iload 4, 2) := by decide +kernel
theorem dX8_claim_125 : decode cX8_claim 125 = .ok (.iastore, 1) := by decide +kernel
theorem dX8_claim_126 : decode cX8_claim 126 = .ok (.aload_n 0, 1) := by decide +kernel
theorem dX8_claim_127 : decode cX8_claim 127 = .ok (.dup, 1) := by decide +kernel
theorem dX8_claim_128 : decode cX8_claim 128 = .ok (.getfield 187, 3) := by decide +kernel
theorem dX8_claim_131 : decode cX8_claim 131 = .ok (.iconst 1, 1) := by decide +kernel
theorem dX8_claim_132 : decode cX8_claim 132 = .ok (.iadd, 1) := by decide +kernel
theorem dX8_claim_133 : decode cX8_claim 133 = .ok (.putfield 187, 3) := by decide +kernel
theorem dX8_claim_136 : decode cX8_claim 136 = .ok (.aload_n 0, 1) := by decide +kernel
theorem dX8_claim_137 : decode cX8_claim 137 = .ok (.getfield 187, 3) := by decide +kernel
theorem dX8_claim_140 : decode cX8_claim 140 = .ok (.iconst 1, 1) := by decide +kernel
theorem dX8_claim_141 : decode cX8_claim 141 = .ok (.isub, 1) := by decide +kernel
theorem dX8_claim_142 : decode cX8_claim 142 = .ok (.ireturn, 1) := by decide +kernel
theorem dX8_now_0 : decode cX8_now 0 = .ok (.aload_n 0, 1) := by decide +kernel
theorem dX8_now_1 : decode cX8_now 1 = .ok (.iconst 0, 1) := by decide +kernel
theorem dX8_now_2 : decode cX8_now 2 = .ok (.putfield 69, 3) := by decide +kernel
theorem dX8_now_5 : decode cX8_now 5 = .ok (.aload_n 0, 1) := by decide +kernel
theorem dX8_now_6 : decode cX8_now 6 = .ok (.getfield 171, 3) := by decide +kernel
theorem dX8_now_9 : decode cX8_now 9 = .ok (.ireturn, 1) := by decide +kernel
theorem dX8_told_0 : decode cX8_told 0 = .ok (.aload_n 0, 1) := by decide +kernel
theorem dX8_told_1 : decode cX8_told 1 = .ok (.iload_n 1, 1) := by decide +kernel
theorem dX8_told_2 : decode cX8_told 2 = .ok (.iconst 0, 1) := by decide +kernel
theorem dX8_told_3 : decode cX8_told 3 = .ok (.aload_n 0, 1) := by decide +kernel
theorem dX8_told_4 : decode cX8_told 4 = .ok (.getfield 81, 3) := by decide +kernel
theorem dX8_told_7 : decode cX8_told 7 = .ok (.iconst 1, 1) := by decide +kernel
theorem dX8_told_8 : decode cX8_told 8 = .ok (.isub, 1) := by decide +kernel
theorem dX8_told_9 : decode cX8_told 9 = .ok (.invokestatic 72, 3) := by decide +kernel
theorem dX8_told_12 : decode cX8_told 12 = .ok (.ifCond .ne 7, 3) := by decide +kernel
theorem dX8_told_15 : decode cX8_told 15 = .ok (.iconst 1, 1) := by decide +kernel
theorem dX8_told_16 : decode cX8_told 16 = .ok (.goto 17, 3) := by decide +kernel
theorem dX8_told_19 : decode cX8_told 19 = .ok (.iload_n 2, 1) := by decide +kernel
theorem dX8_told_20 : decode cX8_told 20 = .ok (.iconst 0, 1) := by decide +kernel
theorem dX8_told_21 : decode cX8_told 21 = .ok (.iconst 5, 1) := by decide +kernel
theorem dX8_told_22 : decode cX8_told 22 = .ok (.invokestatic 72, 3) := by decide +kernel
theorem dX8_told_25 : decode cX8_told 25 = .ok (.ifCond .ne 7, 3) := by decide +kernel
theorem dX8_told_28 : decode cX8_told 28 = .ok (.iconst 2, 1) := by decide +kernel
theorem dX8_told_29 : decode cX8_told 29 = .ok (.goto 4, 3) := by decide +kernel
theorem dX8_told_32 : decode cX8_told 32 = .ok (.iconst 0, 1) := by decide +kernel
theorem dX8_told_33 : decode cX8_told 33 = .ok (.putfield 69, 3) := by decide +kernel
theorem dX8_told_36 : decode cX8_told 36 = .ok (.aload_n 0, 1) := by decide +kernel
theorem dX8_told_37 : decode cX8_told 37 = .ok (.getfield 69, 3) := by decide +kernel
theorem dX8_told_40 : decode cX8_told 40 = .ok (.ifCond .le 5, 3) := by decide +kernel
theorem dX8_told_43 : decode cX8_told 43 = .ok (.iconst 0, 1) := by decide +kernel
theorem dX8_told_44 : decode cX8_told 44 = .ok (.ireturn, 1) := by decide +kernel
theorem dX8_told_45 : decode cX8_told 45 = .ok (.iload_n 2, 1) := by decide +kernel
theorem dX8_told_46 : decode cX8_told 46 = .ok (.tableswitch 69 0 4 #[34, 41, 48, 55, 62], 34) := by decide +kernel
theorem dX8_told_80 : decode cX8_told 80 = .ok (.aload_n 0, 1) := by decide +kernel
theorem dX8_told_81 : decode cX8_told 81 = .ok (.getfield 19, 3) := by decide +kernel
theorem dX8_told_84 : decode cX8_told 84 = .ok (.iload_n 1, 1) := by decide +kernel
theorem dX8_told_85 : decode cX8_told 85 = .ok (.iaload, 1) := by decide +kernel
theorem dX8_told_86 : decode cX8_told 86 = .ok (.ireturn, 1) := by decide +kernel
theorem dX8_told_87 : decode cX8_told 87 = .ok (.aload_n 0, 1) := by decide +kernel
theorem dX8_told_88 : decode cX8_told 88 = .ok (.getfield 23, 3) := by decide +kernel
theorem dX8_told_91 : decode cX8_told 91 = .ok (.iload_n 1, 1) := by decide +kernel
theorem dX8_told_92 : decode cX8_told 92 = .ok (.iaload, 1) := by decide +kernel
theorem dX8_told_93 : decode cX8_told 93 = .ok (.ireturn, 1) := by decide +kernel
theorem dX8_told_94 : decode cX8_told 94 = .ok (.aload_n 0, 1) := by decide +kernel
theorem dX8_told_95 : decode cX8_told 95 = .ok (.getfield 26, 3) := by decide +kernel
theorem dX8_told_98 : decode cX8_told 98 = .ok (.iload_n 1, 1) := by decide +kernel
theorem dX8_told_99 : decode cX8_told 99 = .ok (.iaload, 1) := by decide +kernel
theorem dX8_told_100 : decode cX8_told 100 = .ok (.ireturn, 1) := by decide +kernel
theorem dX8_told_101 : decode cX8_told 101 = .ok (.aload_n 0, 1) := by decide +kernel
theorem dX8_told_102 : decode cX8_told 102 = .ok (.getfield 29, 3) := by decide +kernel
theorem dX8_told_105 : decode cX8_told 105 = .ok (.iload_n 1, 1) := by decide +kernel
theorem dX8_told_106 : decode cX8_told 106 = .ok (.iaload, 1) := by decide +kernel
theorem dX8_told_107 : decode cX8_told 107 = .ok (.ireturn, 1) := by decide +kernel
theorem dX8_told_108 : decode cX8_told 108 = .ok (.aload_n 0, 1) := by decide +kernel
theorem dX8_told_109 : decode cX8_told 109 = .ok (.getfield 32, 3) := by decide +kernel
theorem dX8_told_112 : decode cX8_told 112 = .ok (.iload_n 1, 1) := by decide +kernel
theorem dX8_told_113 : decode cX8_told 113 = .ok (.iaload, 1) := by decide +kernel
theorem dX8_told_114 : decode cX8_told 114 = .ok (.ireturn, 1) := by decide +kernel
theorem dX8_told_115 : decode cX8_told 115 = .ok (.aload_n 0, 1) := by decide +kernel
theorem dX8_told_116 : decode cX8_told 116 = .ok (.getfield 35, 3) := by decide +kernel
theorem dX8_told_119 : decode cX8_told 119 = .ok (.iload_n 1, 1) := by decide +kernel
theorem dX8_told_120 : decode cX8_told 120 = .ok (.baload, 1) := by decide +kernel
theorem dX8_told_121 : decode cX8_told 121 = .ok (.ifCond .eq 7, 3) := by decide +kernel
theorem dX8_told_124 : decode cX8_told 124 = .ok (.iconst 1, 1) := by decide +kernel
theorem dX8_told_125 : decode cX8_told 125 = .ok (.goto 4, 3) := by decide +kernel
theorem dX8_told_128 : decode cX8_told 128 = .ok (.iconst 0, 1) := by decide +kernel
theorem dX8_told_129 : decode cX8_told 129 = .ok (.ireturn, 1) := by decide +kernel
theorem dX8_angle_0 : decode cX8_angle 0 = .ok (.aload_n 0, 1) := by decide +kernel
theorem dX8_angle_1 : decode cX8_angle 1 = .ok (.iload_n 1, 1) := by decide +kernel
theorem dX8_angle_2 : decode cX8_angle 2 = .ok (.iconst 0, 1) := by decide +kernel
theorem dX8_angle_3 : decode cX8_angle 3 = .ok (.aload_n 0, 1) := by decide +kernel
theorem dX8_angle_4 : decode cX8_angle 4 = .ok (.getfield 95, 3) := by decide +kernel
theorem dX8_angle_7 : decode cX8_angle 7 = .ok (.iconst 1, 1) := by decide +kernel
theorem dX8_angle_8 : decode cX8_angle 8 = .ok (.isub, 1) := by decide +kernel
theorem dX8_angle_9 : decode cX8_angle 9 = .ok (.invokestatic 72, 3) := by decide +kernel
theorem dX8_angle_12 : decode cX8_angle 12 = .ok (.ifCond .eq 7, 3) := by decide +kernel
theorem dX8_angle_15 : decode cX8_angle 15 = .ok (.iconst 0, 1) := by decide +kernel
theorem dX8_angle_16 : decode cX8_angle 16 = .ok (.goto 4, 3) := by decide +kernel
theorem dX8_angle_19 : decode cX8_angle 19 = .ok (.iconst 1, 1) := by decide +kernel
theorem dX8_angle_20 : decode cX8_angle 20 = .ok (.putfield 69, 3) := by decide +kernel
theorem dX8_angle_23 : decode cX8_angle 23 = .ok (.aload_n 0, 1) := by decide +kernel
theorem dX8_angle_24 : decode cX8_angle 24 = .ok (.getfield 69, 3) := by decide +kernel
theorem dX8_angle_27 : decode cX8_angle 27 = .ok (.ifCond .le 7, 3) := by decide +kernel
theorem dX8_angle_30 : decode cX8_angle 30 = .ok (.iconst 0, 1) := by decide +kernel
theorem dX8_angle_31 : decode cX8_angle 31 = .ok (.goto 9, 3) := by decide +kernel
theorem dX8_angle_34 : decode cX8_angle 34 = .ok (.aload_n 0, 1) := by decide +kernel
theorem dX8_angle_35 : decode cX8_angle 35 = .ok (.getfield 45, 3) := by decide +kernel
theorem dX8_angle_38 : decode cX8_angle 38 = .ok (.iload_n 1, 1) := by decide +kernel
theorem dX8_angle_39 : decode cX8_angle 39 = .ok (.iaload, 1) := by decide +kernel
theorem dX8_angle_40 : decode cX8_angle 40 = .ok (.ireturn, 1) := by decide +kernel
theorem dX8_speed_0 : decode cX8_speed 0 = .ok (.aload_n 0, 1) := by decide +kernel
theorem dX8_speed_1 : decode cX8_speed 1 = .ok (.iload_n 1, 1) := by decide +kernel
theorem dX8_speed_2 : decode cX8_speed 2 = .ok (.invokestatic 76, 3) := by decide +kernel
theorem dX8_speed_5 : decode cX8_speed 5 = .ok (.ifCond .eq 7, 3) := by decide +kernel
theorem dX8_speed_8 : decode cX8_speed 8 = .ok (.iconst 0, 1) := by decide +kernel
theorem dX8_speed_9 : decode cX8_speed 9 = .ok (.goto 4, 3) := by decide +kernel
theorem dX8_speed_12 : decode cX8_speed 12 = .ok (.iconst 1, 1) := by decide +kernel
theorem dX8_speed_13 : decode cX8_speed 13 = .ok (.putfield 69, 3) := by decide +kernel
theorem dX8_speed_16 : decode cX8_speed 16 = .ok (.aload_n 0, 1) := by decide +kernel
theorem dX8_speed_17 : decode cX8_speed 17 = .ok (.getfield 69, 3) := by decide +kernel
theorem dX8_speed_20 : decode cX8_speed 20 = .ok (.ifCond .le 7, 3) := by decide +kernel
theorem dX8_speed_23 : decode cX8_speed 23 = .ok (.iconst 0, 1) := by decide +kernel
theorem dX8_speed_24 : decode cX8_speed 24 = .ok (.goto 8, 3) := by decide +kernel
theorem dX8_speed_27 : decode cX8_speed 27 = .ok (.aload_n 0, 1) := by decide +kernel
theorem dX8_speed_28 : decode cX8_speed 28 = .ok (.iload_n 1, 1) := by decide +kernel
theorem dX8_speed_29 : decode cX8_speed 29 = .ok (.invokevirtual 145, 3) := by decide +kernel
theorem dX8_speed_32 : decode cX8_speed 32 = .ok (.ireturn, 1) := by decide +kernel
theorem dX8_there_0 : decode cX8_there 0 = .ok (.iconst 0, 1) := by decide +kernel
theorem dX8_there_1 : decode cX8_there 1 = .ok (.istore_n 1, 1) := by decide +kernel
theorem dX8_there_2 : decode cX8_there 2 = .ok (.iconst 0, 1) := by decide +kernel
theorem dX8_there_3 : decode cX8_there 3 = .ok (.istore_n 2, 1) := by decide +kernel
theorem dX8_there_4 : decode cX8_there 4 = .ok (.iload_n 2, 1) := by decide +kernel
theorem dX8_there_5 : decode cX8_there 5 = .ok (.aload_n 0, 1) := by decide +kernel
theorem dX8_there_6 : decode cX8_there 6 = .ok (.getfield 81, 3) := by decide +kernel
theorem dX8_there_9 : decode cX8_there 9 = .ok (.if_icmp .ge 26, 3) := by decide +kernel
theorem dX8_there_12 : decode cX8_there 12 = .ok (.iload_n 1, 1) := by decide +kernel
theorem dX8_there_13 : decode cX8_there 13 = .ok (.aload_n 0, 1) := by decide +kernel
theorem dX8_there_14 : decode cX8_there 14 = .ok (.getfield 35, 3) := by decide +kernel
theorem dX8_there_17 : decode cX8_there 17 = .ok (.iload_n 2, 1) := by decide +kernel
theorem dX8_there_18 : decode cX8_there 18 = .ok (.baload, 1) := by decide +kernel
theorem dX8_there_19 : decode cX8_there 19 = .ok (.ifCond .eq 7, 3) := by decide +kernel
theorem dX8_there_22 : decode cX8_there 22 = .ok (.iconst 1, 1) := by decide +kernel
theorem dX8_there_23 : decode cX8_there 23 = .ok (.goto 4, 3) := by decide +kernel
theorem dX8_there_26 : decode cX8_there 26 = .ok (.iconst 0, 1) := by decide +kernel
theorem dX8_there_27 : decode cX8_there 27 = .ok (.iadd, 1) := by decide +kernel
theorem dX8_there_28 : decode cX8_there 28 = .ok (.istore_n 1, 1) := by decide +kernel
theorem dX8_there_29 : decode cX8_there 29 = .ok (.iinc 2 1, 3) := by decide +kernel
theorem dX8_there_32 : decode cX8_there 32 = .ok (.goto (-28), 3) := by decide +kernel
theorem dX8_there_35 : decode cX8_there 35 = .ok (.iload_n 1, 1) := by decide +kernel
theorem dX8_there_36 : decode cX8_there 36 = .ok (.ireturn, 1) := by decide +kernel
theorem dX8_count_0 : decode cX8_count 0 = .ok (.aload_n 0, 1) := by decide +kernel
theorem dX8_count_1 : decode cX8_count 1 = .ok (.iload_n 1, 1) := by decide +kernel
theorem dX8_count_2 : decode cX8_count 2 = .ok (.iconst 0, 1) := by decide +kernel
theorem dX8_count_3 : decode cX8_count 3 = .ok (.bipush 6, 2) := by decide +kernel
theorem dX8_count_5 : decode cX8_count 5 = .ok (.invokestatic 72, 3) := by decide +kernel
theorem dX8_count_8 : decode cX8_count 8 = .ok (.ifCond .eq 7, 3) := by decide +kernel
theorem dX8_count_11 : decode cX8_count 11 = .ok (.iconst 0, 1) := by decide +kernel
theorem dX8_count_12 : decode cX8_count 12 = .ok (.goto 4, 3) := by decide +kernel
theorem dX8_count_15 : decode cX8_count 15 = .ok (.iconst 1, 1) := by decide +kernel
theorem dX8_count_16 : decode cX8_count 16 = .ok (.putfield 69, 3) := by decide +kernel
theorem dX8_count_19 : decode cX8_count 19 = .ok (.aload_n 0, 1) := by decide +kernel
theorem dX8_count_20 : decode cX8_count 20 = .ok (.getfield 69, 3) := by decide +kernel
theorem dX8_count_23 : decode cX8_count 23 = .ok (.ifCond .le 5, 3) := by decide +kernel
theorem dX8_count_26 : decode cX8_count 26 = .ok (.iconst 0, 1) := by decide +kernel
theorem dX8_count_27 : decode cX8_count 27 = .ok (.ireturn, 1) := by decide +kernel
theorem dX8_count_28 : decode cX8_count 28 = .ok (.iload_n 1, 1) := by decide +kernel
theorem dX8_count_29 : decode cX8_count 29 = .ok (.tableswitch 69 0 5 #[39, 44, 49, 54, 59, 64], 39) := by decide +kernel
theorem dX8_count_68 : decode cX8_count 68 = .ok (.aload_n 0, 1) := by decide +kernel
theorem dX8_count_69 : decode cX8_count 69 = .ok (.getfield 81, 3) := by decide +kernel
theorem dX8_count_72 : decode cX8_count 72 = .ok (.ireturn, 1) := by decide +kernel
theorem dX8_count_73 : decode cX8_count 73 = .ok (.aload_n 0, 1) := by decide +kernel
theorem dX8_count_74 : decode cX8_count 74 = .ok (.invokevirtual 190, 3) := by decide +kernel
theorem dX8_count_77 : decode cX8_count 77 = .ok (.ireturn, 1) := by decide +kernel
theorem dX8_count_78 : decode cX8_count 78 = .ok (.aload_n 0, 1) := by decide +kernel
theorem dX8_count_79 : decode cX8_count 79 = .ok (.getfield 136, 3) := by decide +kernel
theorem dX8_count_82 : decode cX8_count 82 = .ok (.ireturn, 1) := by decide +kernel
theorem dX8_count_83 : decode cX8_count 83 = .ok (.aload_n 0, 1) := by decide +kernel
theorem dX8_count_84 : decode cX8_count 84 = .ok (.getfield 139, 3) := by decide +kernel
theorem dX8_count_87 : decode cX8_count 87 = .ok (.ireturn, 1) := by decide +kernel
theorem dX8_count_88 : decode cX8_count 88 = .ok (.aload_n 0, 1) := by decide +kernel
theorem dX8_count_89 : decode cX8_count 89 = .ok (.getfield 142, 3) := by decide +kernel
theorem dX8_count_92 : decode cX8_count 92 = .ok (.ireturn, 1) := by decide +kernel
theorem dX8_count_93 : decode cX8_count 93 = .ok (.aload_n 0, 1) := by decide +kernel
theorem dX8_count_94 : decode cX8_count 94 = .ok (.getfield 106, 3) := by decide +kernel
theorem dX8_count_97 : decode cX8_count 97 = .ok (.ireturn, 1) := by decide +kernel
theorem dX8_count_98 : decode cX8_count 98 = .ok (.aload_n 0, 1) := by decide +kernel
theorem dX8_count_99 : decode cX8_count 99 = .ok (.getfield 112, 3) := by decide +kernel
theorem dX8_count_102 : decode cX8_count 102 = .ok (.ireturn, 1) := by decide +kernel
theorem dX8_mass_0 : decode cX8_mass 0 = .ok (.aload_n 0, 1) := by decide +kernel
theorem dX8_mass_1 : decode cX8_mass 1 = .ok (.iload_n 1, 1) := by decide +kernel
theorem dX8_mass_2 : decode cX8_mass 2 = .ok (.invokestatic 76, 3) := by decide +kernel
theorem dX8_mass_5 : decode cX8_mass 5 = .ok (.ifCond .eq 7, 3) := by decide +kernel
theorem dX8_mass_8 : decode cX8_mass 8 = .ok (.iconst 0, 1) := by decide +kernel
theorem dX8_mass_9 : decode cX8_mass 9 = .ok (.goto 4, 3) := by decide +kernel
theorem dX8_mass_12 : decode cX8_mass 12 = .ok (.iconst 1, 1) := by decide +kernel
theorem dX8_mass_13 : decode cX8_mass 13 = .ok (.putfield 69, 3) := by decide +kernel
theorem dX8_mass_16 : decode cX8_mass 16 = .ok (.aload_n 0, 1) := by decide +kernel
theorem dX8_mass_17 : decode cX8_mass 17 = .ok (.getfield 69, 3) := by decide +kernel
theorem dX8_mass_20 : decode cX8_mass 20 = .ok (.ifCond .le 7, 3) := by decide +kernel
theorem dX8_mass_23 : decode cX8_mass 23 = .ok (.iconst 0, 1) := by decide +kernel
theorem dX8_mass_24 : decode cX8_mass 24 = .ok (.goto 8, 3) := by decide +kernel
theorem dX8_mass_27 : decode cX8_mass 27 = .ok (.aload_n 0, 1) := by decide +kernel
theorem dX8_mass_28 : decode cX8_mass 28 = .ok (.iload_n 1, 1) := by decide +kernel
theorem dX8_mass_29 : decode cX8_mass 29 = .ok (.invokevirtual 180, 3) := by decide +kernel
theorem dX8_mass_32 : decode cX8_mass 32 = .ok (.ireturn, 1) := by decide +kernel
theorem dX8_sum_0 : decode cX8_sum 0 = .ok (.aload_n 0, 1) := by decide +kernel
theorem dX8_sum_1 : decode cX8_sum 1 = .ok (.iload_n 1, 1) := by decide +kernel
theorem dX8_sum_2 : decode cX8_sum 2 = .ok (.iconst 0, 1) := by decide +kernel
theorem dX8_sum_3 : decode cX8_sum 3 = .ok (.iconst 3, 1) := by decide +kernel
theorem dX8_sum_4 : decode cX8_sum 4 = .ok (.invokestatic 72, 3) := by decide +kernel
theorem dX8_sum_7 : decode cX8_sum 7 = .ok (.ifCond .eq 7, 3) := by decide +kernel
theorem dX8_sum_10 : decode cX8_sum 10 = .ok (.iconst 0, 1) := by decide +kernel
theorem dX8_sum_11 : decode cX8_sum 11 = .ok (.goto 4, 3) := by decide +kernel
theorem dX8_sum_14 : decode cX8_sum 14 = .ok (.iconst 1, 1) := by decide +kernel
theorem dX8_sum_15 : decode cX8_sum 15 = .ok (.putfield 69, 3) := by decide +kernel
theorem dX8_sum_18 : decode cX8_sum 18 = .ok (.aload_n 0, 1) := by decide +kernel
theorem dX8_sum_19 : decode cX8_sum 19 = .ok (.getfield 69, 3) := by decide +kernel
theorem dX8_sum_22 : decode cX8_sum 22 = .ok (.ifCond .le 5, 3) := by decide +kernel
theorem dX8_sum_25 : decode cX8_sum 25 = .ok (.iconst 0, 1) := by decide +kernel
theorem dX8_sum_26 : decode cX8_sum 26 = .ok (.ireturn, 1) := by decide +kernel
theorem dX8_sum_27 : decode cX8_sum 27 = .ok (.iconst 0, 1) := by decide +kernel
theorem dX8_sum_28 : decode cX8_sum 28 = .ok (.istore_n 2, 1) := by decide +kernel
theorem dX8_sum_29 : decode cX8_sum 29 = .ok (.iconst 0, 1) := by decide +kernel
theorem dX8_sum_30 : decode cX8_sum 30 = .ok (.istore_n 3, 1) := by decide +kernel
theorem dX8_sum_31 : decode cX8_sum 31 = .ok (.iload_n 3, 1) := by decide +kernel
theorem dX8_sum_32 : decode cX8_sum 32 = .ok (.aload_n 0, 1) := by decide +kernel
theorem dX8_sum_33 : decode cX8_sum 33 = .ok (.getfield 81, 3) := by decide +kernel
theorem dX8_sum_36 : decode cX8_sum 36 = .ok (.if_icmp .ge 31, 3) := by decide +kernel
theorem dX8_sum_39 : decode cX8_sum 39 = .ok (.iload_n 2, 1) := by decide +kernel
theorem dX8_sum_40 : decode cX8_sum 40 = .ok (.aload_n 0, 1) := by decide +kernel
theorem dX8_sum_41 : decode cX8_sum 41 = .ok (.getfield 35, 3) := by decide +kernel
theorem dX8_sum_44 : decode cX8_sum 44 = .ok (.iload_n 3, 1) := by decide +kernel
theorem dX8_sum_45 : decode cX8_sum 45 = .ok (.baload, 1) := by decide +kernel
theorem dX8_sum_46 : decode cX8_sum 46 = .ok (.ifCond .eq 12, 3) := by decide +kernel
theorem dX8_sum_49 : decode cX8_sum 49 = .ok (.aload_n 0, 1) := by decide +kernel
theorem dX8_sum_50 : decode cX8_sum 50 = .ok (.getfield 26, 3) := by decide +kernel
theorem dX8_sum_53 : decode cX8_sum 53 = .ok (.iload_n 3, 1) := by decide +kernel
theorem dX8_sum_54 : decode cX8_sum 54 = .ok (.iaload, 1) := by decide +kernel
theorem dX8_sum_55 : decode cX8_sum 55 = .ok (.goto 4, 3) := by decide +kernel
theorem dX8_sum_58 : decode cX8_sum 58 = .ok (.iconst 0, 1) := by decide +kernel
theorem dX8_sum_59 : decode cX8_sum 59 = .ok (.iadd, 1) := by decide +kernel
theorem dX8_sum_60 : decode cX8_sum 60 = .ok (.istore_n 2, 1) := by decide +kernel
theorem dX8_sum_61 : decode cX8_sum 61 = .ok (.iinc 3 1, 3) := by decide +kernel
theorem dX8_sum_64 : decode cX8_sum 64 = .ok (.goto (-33), 3) := by decide +kernel
theorem dX8_sum_67 : decode cX8_sum 67 = .ok (.iload_n 1, 1) := by decide +kernel
theorem dX8_sum_68 : decode cX8_sum 68 = .ok (.ifCond .ne 7, 3) := by decide +kernel
theorem dX8_sum_71 : decode cX8_sum 71 = .ok (.iload_n 2, 1) := by decide +kernel
theorem dX8_sum_72 : decode cX8_sum 72 = .ok (.goto 31, 3) := by decide +kernel
theorem dX8_sum_75 : decode cX8_sum 75 = .ok (.iload_n 1, 1) := by decide +kernel
theorem dX8_sum_76 : decode cX8_sum 76 = .ok (.iconst 1, 1) := by decide +kernel
theorem dX8_sum_77 : decode cX8_sum 77 = .ok (.if_icmp .ne 10, 3) := by decide +kernel
theorem dX8_sum_80 : decode cX8_sum 80 = .ok (.aload_n 0, 1) := by decide +kernel
theorem dX8_sum_81 : decode cX8_sum 81 = .ok (.getfield 109, 3) := by decide +kernel
theorem dX8_sum_84 : decode cX8_sum 84 = .ok (.goto 19, 3) := by decide +kernel
theorem dX8_sum_87 : decode cX8_sum 87 = .ok (.iload_n 1, 1) := by decide +kernel
theorem dX8_sum_88 : decode cX8_sum 88 = .ok (.iconst 2, 1) := by decide +kernel
theorem dX8_sum_89 : decode cX8_sum 89 = .ok (.if_icmp .ne 10, 3) := by decide +kernel
theorem dX8_sum_92 : decode cX8_sum 92 = .ok (.aload_n 0, 1) := by decide +kernel
theorem dX8_sum_93 : decode cX8_sum 93 = .ok (.getfield 115, 3) := by decide +kernel
theorem dX8_sum_96 : decode cX8_sum 96 = .ok (.goto 7, 3) := by decide +kernel
