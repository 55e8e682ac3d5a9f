theorem dX0_init_0 : decode cX0_init 0 = .ok (.aload_n 0, 1) := by decide +kernel
theorem dX0_init_1 : decode cX0_init 1 = .ok (.invokespecial 3, 3) := by decide +kernel
theorem dX0_init_4 : decode cX0_init 4 = .ok (.aload_n 0, 1) := by decide +kernel
theorem dX0_init_5 : decode cX0_init 5 = .ok (.bipush 8, 2) := by decide +kernel
theorem dX0_init_7 : decode cX0_init 7 = .ok (.newarray .int, 2) := by decide +kernel
theorem dX0_init_9 : decode cX0_init 9 = .ok (.putfield 11, 3) := by decide +kernel
theorem dX0_init_12 : decode cX0_init 12 = .ok (.aload_n 0, 1) := by decide +kernel
theorem dX0_init_13 : decode cX0_init 13 = .ok (.bipush 8, 2) := by decide +kernel
theorem dX0_init_15 : decode cX0_init 15 = .ok (.newarray .int, 2) := by decide +kernel
theorem dX0_init_17 : decode cX0_init 17 = .ok (.putfield 15, 3) := by decide +kernel
theorem dX0_init_20 : decode cX0_init 20 = .ok (.aload_n 0, 1) := by decide +kernel
theorem dX0_init_21 : decode cX0_init 21 = .ok (.bipush 8, 2) := by decide +kernel
theorem dX0_init_23 : decode cX0_init 23 = .ok (.newarray .int, 2) := by decide +kernel
theorem dX0_init_25 : decode cX0_init 25 = .ok (.putfield 18, 3) := by decide +kernel
theorem dX0_init_28 : decode cX0_init 28 = .ok (.aload_n 0, 1) := by decide +kernel
theorem dX0_init_29 : decode cX0_init 29 = .ok (.bipush 10, 2) := by decide +kernel
theorem dX0_init_31 : decode cX0_init 31 = .ok (.newarray .int, 2) := by decide +kernel
theorem dX0_init_33 : decode cX0_init 33 = .ok (.putfield 21, 3) := by decide +kernel
theorem dX0_init_36 : decode cX0_init 36 = .ok (.aload_n 0, 1) := by decide +kernel
theorem dX0_init_37 : decode cX0_init 37 = .ok (.bipush 10, 2) := by decide +kernel
theorem dX0_init_39 : decode cX0_init 39 = .ok (.newarray .int, 2) := by decide +kernel
theorem dX0_init_41 : decode cX0_init 41 = .ok (.putfield 24, 3) := by decide +kernel
theorem dX0_init_44 : decode cX0_init 44 = .ok (.aload_n 0, 1) := by decide +kernel
theorem dX0_init_45 : decode cX0_init 45 = .ok (.getfield 24, 3) := by decide +kernel
theorem dX0_init_48 : decode cX0_init 48 = .ok (.sipush 10000, 3) := by decide +kernel
theorem dX0_init_51 : decode cX0_init 51 = .ok (.invokestatic 27, 3) := by decide +kernel
theorem dX0_init_54 : decode cX0_init 54 = .ok (.return_, 1) := by decide +kernel
theorem dX0_addBetween_0 : decode cX0_addBetween 0 = .ok (.aload_n 0, 1) := by decide +kernel
theorem dX0_addBetween_1 : decode cX0_addBetween 1 = .ok (.getfield 33, 3) := by decide +kernel
theorem dX0_addBetween_4 : decode cX0_addBetween 4 = .ok (.bipush 8, 2) := by decide +kernel
theorem dX0_addBetween_6 : decode cX0_addBetween 6 = .ok (.if_icmp .lt 5, 3) := by decide +kernel
theorem dX0_addBetween_9 : decode cX0_addBetween 9 = .ok (.iconst (-1), 1) := by decide +kernel
theorem dX0_addBetween_10 : decode cX0_addBetween 10 = .ok (.ireturn, 1) := by decide +kernel
theorem dX0_addBetween_11 : decode cX0_addBetween 11 = .ok (.aload_n 0, 1) := by decide +kernel
theorem dX0_addBetween_12 : decode cX0_addBetween 12 = .ok (.getfield 11, 3) := by decide +kernel
theorem dX0_addBetween_15 : decode cX0_addBetween 15 = .ok (.aload_n 0, 1) := by decide +kernel
theorem dX0_addBetween_16 : decode cX0_addBetween 16 = .ok (.getfield 33, 3) := by decide +kernel
theorem dX0_addBetween_19 : decode cX0_addBetween 19 = .ok (.iload_n 1, 1) := by decide +kernel
theorem dX0_addBetween_20 : decode cX0_addBetween 20 = .ok (.iastore, 1) := by decide +kernel
theorem dX0_addBetween_21 : decode cX0_addBetween 21 = .ok (.aload_n 0, 1) := by decide +kernel
theorem dX0_addBetween_22 : decode cX0_addBetween 22 = .ok (.getfield 15, 3) := by decide +kernel
theorem dX0_addBetween_25 : decode cX0_addBetween 25 = .ok (.aload_n 0, 1) := by decide +kernel
theorem dX0_addBetween_26 : decode cX0_addBetween 26 = .ok (.getfield 33, 3) := by decide +kernel
theorem dX0_addBetween_29 : decode cX0_addBetween 29 = .ok (.iload_n 2, 1) := by decide +kernel
theorem dX0_addBetween_30 : decode cX0_addBetween 30 = .ok (.iastore, 1) := by decide +kernel
theorem dX0_addBetween_31 : decode cX0_addBetween 31 = .ok (.aload_n 0, 1) := by decide +kernel
theorem dX0_addBetween_32 : decode cX0_addBetween 32 = .ok (.getfield 18, 3) := by decide +kernel
theorem dX0_addBetween_35 : decode cX0_addBetween 35 = .ok (.aload_n 0, 1) := by decide +kernel
theorem dX0_addBetween_36 : decode cX0_addBetween 36 = .ok (.getfield 33, 3) := by decide +kernel
theorem dX0_addBetween_39 : decode cX0_addBetween 39 = .ok (.iload_n 3, 1) := by decide +kernel
theorem dX0_addBetween_40 : decode cX0_addBetween 40 = .ok (.iastore, 1) := by decide +kernel
theorem dX0_addBetween_41 : decode cX0_addBetween 41 = .ok (.aload_n 0, 1) := by decide +kernel
theorem dX0_addBetween_42 : decode cX0_addBetween 42 = .ok (.dup, 1) := by decide +kernel
theorem dX0_addBetween_43 : decode cX0_addBetween 43 = .ok (.getfield 33, 3) := by decide +kernel
theorem dX0_addBetween_46 : decode cX0_addBetween 46 = .ok (.iconst 1, 1) := by decide +kernel
theorem dX0_addBetween_47 : decode cX0_addBetween 47 = .ok (.iadd, 1) := by decide +kernel
theorem dX0_addBetween_48 : decode cX0_addBetween 48 = .ok (.putfield 33, 3) := by decide +kernel
theorem dX0_addBetween_51 : decode cX0_addBetween 51 = .ok (.iconst 1, 1) := by decide +kernel
theorem dX0_addBetween_52 : decode cX0_addBetween 52 = .ok (.istore 4, 2) := by decide +kernel
theorem dX0_addBetween_54 : decode cX0_addBetween 54 = .ok (.iconst 0, 1) := by decide +kernel
theorem dX0_addBetween_55 : decode cX0_addBetween 55 = .ok (.istore 5, 2) := by decide +kernel
theorem dX0_addBetween_57 : decode cX0_addBetween 57 = .ok (.iload 4, 2) := by decide +kernel
theorem dX0_addBetween_59 : decode cX0_addBetween 59 = .ok (.ifCond .eq 55, 3) := by decide +kernel
theorem dX0_addBetween_62 : decode cX0_addBetween 62 = .ok (.aload_n 0, 1) := by decide +kernel
theorem dX0_addBetween_63 : decode cX0_addBetween 63 = .ok (.getfield 37, 3) := by decide +kernel
theorem dX0_addBetween_66 : decode cX0_addBetween 66 = .ok (.ifCond .ne 48, 3) := by decide +kernel
theorem dX0_addBetween_69 : decode cX0_addBetween 69 = .ok (.iload 5, 2) := by decide +kernel
theorem dX0_addBetween_71 : decode cX0_addBetween 71 = .ok (.ldc 41, 2) := by decide +kernel
theorem dX0_addBetween_73 : decode cX0_addBetween 73 = .ok (.if_icmp .ge 41, 3) := by decide +kernel
theorem dX0_addBetween_76 : decode cX0_addBetween 76 = .ok (.iconst 0, 1) := by decide +kernel
theorem dX0_addBetween_77 : decode cX0_addBetween 77 = .ok (.istore 4, 2) := by decide +kernel
theorem dX0_addBetween_79 : decode cX0_addBetween 79 = .ok (.iconst 0, 1) := by decide +kernel
theorem dX0_addBetween_80 : decode cX0_addBetween 80 = .ok (.istore 6, 2) := by decide +kernel
theorem dX0_addBetween_82 : decode cX0_addBetween 82 = .ok (.iload 6, 2) := by decide +kernel
theorem dX0_addBetween_84 : decode cX0_addBetween 84 = .ok (.aload_n 0, 1) := by decide +kernel
theorem dX0_addBetween_85 : decode cX0_addBetween 85 = .ok (.getfield 33, 3) := by decide +kernel
theorem dX0_addBetween_88 : decode cX0_addBetween 88 = .ok (.if_icmp .ge 20, 3) := by decide +kernel
theorem dX0_addBetween_91 : decode cX0_addBetween 91 = .ok (.iload 4, 2) := by decide +kernel
theorem dX0_addBetween_93 : decode cX0_addBetween 93 = .ok (.aload_n 0, 1) := by decide +kernel
theorem dX0_addBetween_94 : decode cX0_addBetween 94 = .ok (.iload 6, 2) := by decide +kernel
theorem dX0_addBetween_96 : decode cX0_addBetween 96 = .ok (.invokevirtual 42, 3) := by decide +kernel
theorem dX0_addBetween_99 : decode cX0_addBetween 99 = .ok (.ior, 1) := by decide +kernel
theorem dX0_addBetween_100 : decode cX0_addBetween 100 = .ok (.istore 4, 2) := by decide +kernel
theorem dX0_addBetween_102 : decode cX0_addBetween 102 = .ok (.iinc 6 1, 3) := by decide +kernel
theorem dX0_addBetween_105 : decode cX0_addBetween 105 = .ok (.goto (-23), 3) := by decide +kernel
theorem dX0_addBetween_108 : decode cX0_addBetween 108 = .ok (.iinc 5 1, 3) := by decide +kernel
theorem dX0_addBetween_111 : decode cX0_addBetween 111 = .ok (.goto (-54), 3) := by decide +kernel
theorem dX0_addBetween_114 : decode cX0_addBetween 114 = .ok (.aload_n 0, 1) := by decide +kernel
theorem dX0_addBetween_115 : decode cX0_addBetween 115 = .ok (.getfield 33, 3) := by decide +kernel
theorem dX0_addBetween_118 : decode cX0_addBetween 118 = .ok (.iconst 1, 1) := by decide +kernel
theorem dX0_addBetween_119 : decode cX0_addBetween 119 = .ok (.isub, 1) := by decide +kernel
theorem dX0_addBetween_120 : decode cX0_addBetween 120 = .ok (.ireturn, 1) := by decide +kernel
theorem dX0_narrow_0 : decode cX0_narrow 0 = .ok (.iconst 0, 1) := by decide +kernel
theorem dX0_narrow_1 : decode cX0_narrow 1 = .ok (.istore_n 2, 1) := by decide +kernel
theorem dX0_narrow_2 : decode cX0_narrow 2 = .ok (.iconst 0, 1) := by decide +kernel
theorem dX0_narrow_3 : decode cX0_narrow 3 = .ok (.istore_n 3, 1) := by decide +kernel
theorem dX0_narrow_4 : decode cX0_narrow 4 = .ok (.iconst 0, 1) := by decide +kernel
theorem dX0_narrow_5 : decode cX0_narrow 5 = .ok (.istore 4, 2) := by decide +kernel
theorem dX0_narrow_7 : decode cX0_narrow 7 = .ok (.iload 4, 2) := by decide +kernel
theorem dX0_narrow_9 : decode cX0_narrow 9 = .ok (.bipush 10, 2) := by decide +kernel
theorem dX0_narrow_11 : decode cX0_narrow 11 = .ok (.if_icmp .ge 44, 3) := by decide +kernel
theorem dX0_narrow_14 : decode cX0_narrow 14 = .ok (.aload_n 0, 1) := by decide +kernel
theorem dX0_narrow_15 : decode cX0_narrow 15 = .ok (.getfield 11, 3) := by decide +kernel
theorem dX0_narrow_18 : decode cX0_narrow 18 = .ok (.iload_n 1, 1) := by decide +kernel
theorem dX0_narrow_19 : decode cX0_narrow 19 = .ok (.iaload, 1) := by decide +kernel
theorem dX0_narrow_20 : decode cX0_narrow 20 = .ok (.iload 4, 2) := by decide +kernel
theorem dX0_narrow_22 : decode cX0_narrow 22 = .ok (.ishr, 1) := by decide +kernel
theorem dX0_narrow_23 : decode cX0_narrow 23 = .ok (.iconst 1, 1) := by decide +kernel
theorem dX0_narrow_24 : decode cX0_narrow 24 = .ok (.iand, 1) := by decide +kernel
theorem dX0_narrow_25 : decode cX0_narrow 25 = .ok (.iconst 1, 1) := by decide +kernel
theorem dX0_narrow_26 : decode cX0_narrow 26 = .ok (.if_icmp .ne 23, 3) := by decide +kernel
theorem dX0_narrow_29 : decode cX0_narrow 29 = .ok (.iload_n 2, 1) := by decide +kernel
theorem dX0_narrow_30 : decode cX0_narrow 30 = .ok (.aload_n 0, 1) := by decide +kernel
theorem dX0_narrow_31 : decode cX0_narrow 31 = .ok (.getfield 21, 3) := by decide +kernel
theorem dX0_narrow_34 : decode cX0_narrow 34 = .ok (.iload 4, 2) := by decide +kernel
theorem dX0_narrow_36 : decode cX0_narrow 36 = .ok (.iaload, 1) := by decide +kernel
theorem dX0_narrow_37 : decode cX0_narrow 37 = .ok (.iadd, 1) := by decide +kernel
theorem dX0_narrow_38 : decode cX0_narrow 38 = .ok (.istore_n 2, 1) := by decide +kernel
theorem dX0_narrow_39 : decode cX0_narrow 39 = .ok (.iload_n 3, 1) := by decide +kernel
theorem dX0_narrow_40 : decode cX0_narrow 40 = .ok (.aload_n 0, 1) := by decide +kernel
theorem dX0_narrow_41 : decode cX0_narrow 41 = .ok (.getfield 24, 3) := by decide +kernel
theorem dX0_narrow_44 : decode cX0_narrow 44 = .ok (.iload 4, 2) := by decide +kernel
theorem dX0_narrow_46 : decode cX0_narrow 46 = .ok (.iaload, 1) := by decide +kernel
theorem dX0_narrow_47 : decode cX0_narrow 47 = .ok (.iadd, 1) := by decide +kernel
theorem dX0_narrow_48 : decode cX0_narrow 48 = .ok (.istore_n 3, 1) := by decide +kernel
theorem dX0_narrow_49 : decode cX0_narrow 49 = .ok (.iinc 4 1, 3) := by decide +kernel
theorem dX0_narrow_52 : decode cX0_narrow 52 = .ok (.goto (-45), 3) := by decide +kernel
theorem dX0_narrow_55 : decode cX0_narrow 55 = .ok (.iconst 0, 1) := by decide +kernel
theorem dX0_narrow_56 : decode cX0_narrow 56 = .ok (.istore 4, 2) := by decide +kernel
theorem dX0_narrow_58 : decode cX0_narrow 58 = .ok (.iconst 0, 1) := by decide +kernel
theorem dX0_narrow_59 : decode cX0_narrow 59 = .ok (.istore 5, 2) := by decide +kernel
theorem dX0_narrow_61 : decode cX0_narrow 61 = .ok (.iload 5, 2) := by decide +kernel
theorem dX0_narrow_63 : decode cX0_narrow 63 = .ok (.bipush 10, 2) := by decide +kernel
theorem dX0_narrow_65 : decode cX0_narrow 65 = .ok (.if_icmp .ge 179, 3) := by decide +kernel
theorem dX0_narrow_68 : decode cX0_narrow 68 = .ok (.aload_n 0, 1) := by decide +kernel
theorem dX0_narrow_69 : decode cX0_narrow 69 = .ok (.getfield 11, 3) := by decide +kernel
theorem dX0_narrow_72 : decode cX0_narrow 72 = .ok (.iload_n 1, 1) := by decide +kernel
theorem dX0_narrow_73 : decode cX0_narrow 73 = .ok (.iaload, 1) := by decide +kernel
theorem dX0_narrow_74 : decode cX0_narrow 74 = .ok (.iload 5, 2) := by decide +kernel
theorem dX0_narrow_76 : decode cX0_narrow 76 = .ok (.ishr, 1) := by decide +kernel
theorem dX0_narrow_77 : decode cX0_narrow 77 = .ok (.iconst 1, 1) := by decide +kernel
theorem dX0_narrow_78 : decode cX0_narrow 78 = .ok (.iand, 1) := by decide +kernel
theorem dX0_narrow_79 : decode cX0_narrow 79 = .ok (.iconst 1, 1) := by decide +kernel
theorem dX0_narrow_80 : decode cX0_narrow 80 = .ok (.if_icmp .ne 158, 3) := by decide +kernel
theorem dX0_narrow_83 : decode cX0_narrow 83 = .ok (.aload_n 0, 1) := by decide +kernel
theorem dX0_narrow_84 : decode cX0_narrow 84 = .ok (.getfield 21, 3) := by decide +kernel
theorem dX0_narrow_87 : decode cX0_narrow 87 = .ok (.iload 5, 2) := by decide +kernel
theorem dX0_narrow_89 : decode cX0_narrow 89 = .ok (.iaload, 1) := by decide +kernel
theorem dX0_narrow_90 : decode cX0_narrow 90 = .ok (.aload_n 0, 1) := by decide +kernel
theorem dX0_narrow_91 : decode cX0_narrow 91 = .ok (.getfield 15, 3) := by decide +kernel
theorem dX0_narrow_94 : decode cX0_narrow 94 = .ok (.iload_n 1, 1) := by decide +kernel
theorem dX0_narrow_95 : decode cX0_narrow 95 = .ok (.iaload, 1) := by decide +kernel
theorem dX0_narrow_96 : decode cX0_narrow 96 = .ok (.iload_n 3, 1) := by decide +kernel
theorem dX0_narrow_97 : decode cX0_narrow 97 = .ok (.aload_n 0, 1) := by decide +kernel
theorem dX0_narrow_98 : decode cX0_narrow 98 = .ok (.getfield 24, 3) := by decide +kernel
theorem dX0_narrow_101 : decode cX0_narrow 101 = .ok (.iload 5, 2) := by decide +kernel
theorem dX0_narrow_103 : decode cX0_narrow 103 = .ok (.iaload, 1) := by decide +kernel
theorem dX0_narrow_104 : decode cX0_narrow 104 = .ok (.isub, 1) := by decide +kernel
theorem dX0_narrow_105 : decode cX0_narrow 105 = .ok (.isub, 1) := by decide +kernel
theorem dX0_narrow_106 : decode cX0_narrow 106 = .ok (.invokestatic 46, 3) := by decide +kernel
theorem dX0_narrow_109 : decode cX0_narrow 109 = .ok (.istore 6, 2) := by decide +kernel
theorem dX0_narrow_111 : decode cX0_narrow 111 = .ok (.aload_n 0, 1) := by decide +kernel
theorem dX0_narrow_112 : decode cX0_narrow 112 = .ok (.getfield 24, 3) := by decide +kernel
theorem dX0_narrow_115 : decode cX0_narrow 115 = .ok (.iload 5, 2) := by decide +kernel
theorem dX0_narrow_117 : decode cX0_narrow 117 = .ok (.iaload, 1) := by decide +kernel
theorem dX0_narrow_118 : decode cX0_narrow 118 = .ok (.aload_n 0, 1) := by decide +kernel
theorem dX0_narrow_119 : decode cX0_narrow 119 = .ok (.getfield 18, 3) := by decide +kernel
theorem dX0_narrow_122 : decode cX0_narrow 122 = .ok (.iload_n 1, 1) := by decide +kernel
theorem dX0_narrow_123 : decode cX0_narrow 123 = .ok (.iaload, 1) := by decide +kernel
theorem dX0_narrow_124 : decode cX0_narrow 124 = .ok (.iload_n 2, 1) := by decide +kernel
theorem dX0_narrow_125 : decode cX0_narrow 125 = .ok (.aload_n 0, 1) := by decide +kernel
theorem dX0_narrow_126 : decode cX0_narrow 126 = .ok (.getfield 21, 3) := by decide +kernel
theorem dX0_narrow_129 : decode cX0_narrow 129 = .ok (.iload 5, 2) := by decide +kernel
theorem dX0_narrow_131 : decode cX0_narrow 131 = .ok (.iaload, 1) := by decide +kernel
theorem dX0_narrow_132 : decode cX0_narrow 132 = .ok (.isub, 1) := by decide +kernel
theorem dX0_narrow_133 : decode cX0_narrow 133 = .ok (.isub, 1) := by decide +kernel
theorem dX0_narrow_134 : decode cX0_narrow 134 = .ok (.invokestatic 52, 3) := by decide +kernel
theorem dX0_narrow_137 : decode cX0_narrow 137 = .ok (.istore 7, 2) := by decide +kernel
theorem dX0_narrow_139 : decode cX0_narrow 139 = .ok (.iload 4, 2) := by decide +kernel
theorem dX0_narrow_141 : decode cX0_narrow 141 = .ok (.iload 6, 2) := by decide +kernel
theorem dX0_narrow_143 : decode cX0_narrow 143 = .ok (.aload_n 0, 1) := by decide +kernel
theorem dX0_narrow_144 : decode cX0_narrow 144 = .ok (.getfield 21, 3) := by decide +kernel
theorem dX0_narrow_147 : decode cX0_narrow 147 = .ok (.iload 5, 2) := by decide +kernel
theorem dX0_narrow_149 : decode cX0_narrow 149 = .ok (.iaload, 1) := by decide +kernel
theorem dX0_narrow_150 : decode cX0_narrow 150 = .ok (.if_icmp .ne 15, 3) := by decide +kernel
theorem dX0_narrow_153 : decode cX0_narrow 153 = .ok (.iload 7, 2) := by decide +kernel
theorem dX0_narrow_155 : decode cX0_narrow 155 = .ok (.aload_n 0, 1) := by decide +kernel
theorem dX0_narrow_156 : decode cX0_narrow 156 = .ok (.getfield 24, 3) := by decide +kernel
theorem dX0_narrow_159 : decode cX0_narrow 159 = .ok (.iload 5, 2) := by decide +kernel
theorem dX0_narrow_161 : decode cX0_narrow 161 = .ok (.iaload, 1) := by decide +kernel
theorem dX0_narrow_162 : decode cX0_narrow 162 = .ok (.if_icmp .eq 7, 3) := by decide +kernel
theorem dX0_narrow_165 : decode cX0_narrow 165 = .ok (.iconst 1, 1) := by decide +kernel
theorem dX0_narrow_166 : decode cX0_narrow 166 = .ok (.goto 4, 3) := by decide +kernel
theorem dX0_narrow_169 : decode cX0_narrow 169 = .ok (.iconst 0, 1) := by decide +kernel
theorem dX0_narrow_170 : decode cX0_narrow 170 = .ok (.ior, 1) := by decide +kernel
theorem dX0_narrow_171 : decode cX0_narrow 171 = .ok (.istore 4, 2) := by decide +kernel
theorem dX0_narrow_173 : decode cX0_narrow 173 = .ok (.iload_n 2, 1) := by decide +kernel
theorem dX0_narrow_174 : decode cX0_narrow 174 = .ok (.iload 6, 2) := by decide +kernel
theorem dX0_narrow_176 : decode cX0_narrow 176 = .ok (.aload_n 0, 1) := by decide +kernel
theorem dX0_narrow_177 : decode cX0_narrow 177 = .ok (.getfield 21, 3) := by decide +kernel
theorem dX0_narrow_180 : decode cX0_narrow 180 = .ok (.iload 5, 2) := by decide +kernel
theorem dX0_narrow_182 : decode cX0_narrow 182 = .ok (.iaload, 1) := by decide +kernel
theorem dX0_narrow_183 : decode cX0_narrow 183 = .ok (.isub, 1) := by decide +kernel
theorem dX0_narrow_184 : decode cX0_narrow 184 = .ok (.iadd, 1) := by decide +kernel
theorem dX0_narrow_185 : decode cX0_narrow 185 = .ok (.istore_n 2, 1) := by decide +kernel
theorem dX0_narrow_186 : decode cX0_narrow 186 = .ok (.iload_n 3, 1) := by decide +kernel
theorem dX0_narrow_187 : decode cX0_narrow 187 = .ok (.iload 7, 2) := by decide +kernel
theorem dX0_narrow_189 : decode cX0_narrow 189 = .ok (.aload_n 0, 1) := by decide +kernel
theorem dX0_narrow_190 : decode cX0_narrow 190 = .ok (.getfield 24, 3) := by decide +kernel
theorem dX0_narrow_193 : decode cX0_narrow 193 = .ok (.iload 5, 2) := by decide +kernel
theorem dX0_narrow_195 : decode cX0_narrow 195 = .ok (.iaload, 1) := by decide +kernel
theorem dX0_narrow_196 : decode cX0_narrow 196 = .ok (.isub, 1) := by decide +kernel
theorem dX0_narrow_197 : decode cX0_narrow 197 = .ok (.iadd, 1) := by decide +kernel
theorem dX0_narrow_198 : decode cX0_narrow 198 = .ok (.istore_n 3, 1) := by decide +kernel
theorem dX0_narrow_199 : decode cX0_narrow 199 = .ok (.aload_n 0, 1) := by decide +kernel
theorem dX0_narrow_200 : decode cX0_narrow 200 = .ok (.getfield 21, 3) := by decide +kernel
theorem dX0_narrow_203 : decode cX0_narrow 203 = .ok (.iload 5, 2) := by decide +kernel
theorem dX0_narrow_205 : decode cX0_narrow 205 = .ok (.iload 6, 2) := by decide +kernel
theorem dX0_narrow_207 : decode cX0_narrow 207 = .ok (.iastore, 1) := by decide +kernel
theorem dX0_narrow_208 : decode cX0_narrow 208 = .ok (.aload_n 0, 1) := by decide +kernel
theorem dX0_narrow_209 : decode cX0_narrow 209 = .ok (.getfield 24, 3) := by decide +kernel
theorem dX0_narrow_212 : decode cX0_narrow 212 = .ok (.iload 5, 2) := by decide +kernel
theorem dX0_narrow_214 : decode cX0_narrow 214 = .ok (.iload 7, 2) := by decide +kernel
theorem dX0_narrow_216 : decode cX0_narrow 216 = .ok (.iastore, 1) := by decide +kernel
theorem dX0_narrow_217 : decode cX0_narrow 217 = .ok (.aload_n 0, 1) := by decide +kernel
theorem dX0_narrow_218 : decode cX0_narrow 218 = .ok (.dup, 1) := by decide +kernel
theorem dX0_narrow_219 : decode cX0_narrow 219 = .ok (.getfield 37, 3) := by decide +kernel
theorem dX0_narrow_222 : decode cX0_narrow 222 = .ok (.iload 6, 2) := by decide +kernel
theorem dX0_narrow_224 : decode cX0_narrow 224 = .ok (.iload 7, 2) := by decide +kernel
theorem dX0_narrow_226 : decode cX0_narrow 226 = .ok (.if_icmp .le 7, 3) := by decide +kernel
theorem dX0_narrow_229 : decode cX0_narrow 229 = .ok (.iconst 1, 1) := by decide +kernel
theorem dX0_narrow_230 : decode cX0_narrow 230 = .ok (.goto 4, 3) := by decide +kernel
theorem dX0_narrow_233 : decode cX0_narrow 233 = .ok (.iconst 0, 1) := by decide +kernel
theorem dX0_narrow_234 : decode cX0_narrow 234 = .ok (.ior, 1) := by decide +kernel
theorem dX0_narrow_235 : decode cX0_narrow 235 = .ok (.putfield 37, 3) := by decide +kernel
theorem dX0_narrow_238 : decode cX0_narrow 238 = .ok (.iinc 5 1, 3) := by decide +kernel
theorem dX0_narrow_241 : decode cX0_narrow 241 = .ok (.goto (-180), 3) := by decide +kernel
theorem dX0_narrow_244 : decode cX0_narrow 244 = .ok (.iload 4, 2) := by decide +kernel
theorem dX0_narrow_246 : decode cX0_narrow 246 = .ok (.ireturn, 1) := by decide +kernel
theorem dX1_init_0 : decode cX1_init 0 = .ok (.aload_n 0, 1) := by decide +kernel
theorem dX1_init_1 : decode cX1_init 1 = .ok (.invokespecial 3, 3) := by decide +kernel
theorem dX1_init_4 : decode cX1_init 4 = .ok (.aload_n 0, 1) := by decide +kernel
theorem dX1_init_5 : decode cX1_init 5 = .ok (.bipush 20, 2) := by decide +kernel
theorem dX1_init_7 : decode cX1_init 7 = .ok (.newarray .int, 2) := by decide +kernel
theorem dX1_init_9 : decode cX1_init 9 = .ok (.putfield 11, 3) := by decide +kernel
theorem dX1_init_12 : decode cX1_init 12 = .ok (.aload_n 0, 1) := by decide +kernel
theorem dX1_init_13 : decode cX1_init 13 = .ok (.bipush 11, 2) := by decide +kernel
theorem dX1_init_15 : decode cX1_init 15 = .ok (.newarray .int, 2) := by decide +kernel
theorem dX1_init_17 : decode cX1_init 17 = .ok (.putfield 15, 3) := by decide +kernel
theorem dX1_init_20 : decode cX1_init 20 = .ok (.return_, 1) := by decide +kernel
theorem dX1_addValue_0 : decode cX1_addValue 0 = .ok (.aload_n 0, 1) := by decide +kernel
theorem dX1_addValue_1 : decode cX1_addValue 1 = .ok (.getfield 18, 3) := by decide +kernel
theorem dX1_addValue_4 : decode cX1_addValue 4 = .ok (.bipush 20, 2) := by decide +kernel
theorem dX1_addValue_6 : decode cX1_addValue 6 = .ok (.if_icmp .lt 5, 3) := by decide +kernel
theorem dX1_addValue_9 : decode cX1_addValue 9 = .ok (.iconst (-1), 1) := by decide +kernel
theorem dX1_addValue_10 : decode cX1_addValue 10 = .ok (.ireturn, 1) := by decide +kernel
theorem dX1_addValue_11 : decode cX1_addValue 11 = .ok (.aload_n 0, 1) := by decide +kernel
theorem dX1_addValue_12 : decode cX1_addValue 12 = .ok (.getfield 18, 3) := by decide +kernel
theorem dX1_addValue_15 : decode cX1_addValue 15 = .ok (.istore_n 2, 1) := by decide +kernel
theorem dX1_addValue_16 : decode cX1_addValue 16 = .ok (.iload_n 2, 1) := by decide +kernel
theorem dX1_addValue_17 : decode cX1_addValue 17 = .ok (.ifCond .le 35, 3) := by decide +kernel
theorem dX1_addValue_20 : decode cX1_addValue 20 = .ok (.aload_n 0, 1) := by decide +kernel
theorem dX1_addValue_21 : decode cX1_addValue 21 = .ok (.getfield 11, 3) := by decide +kernel
theorem dX1_addValue_24 : decode cX1_addValue 24 = .ok (.iload_n 2, 1) := by decide +kernel
theorem dX1_addValue_25 : decode cX1_addValue 25 = .ok (.iconst 1, 1) := by decide +kernel
theorem dX1_addValue_26 : decode cX1_addValue 26 = .ok (.isub, 1) := by decide +kernel
theorem dX1_addValue_27 : decode cX1_addValue 27 = .ok (.iaload, 1) := by decide +kernel
theorem dX1_addValue_28 : decode cX1_addValue 28 = .ok (.iload_n 1, 1) := by decide +kernel
theorem dX1_addValue_29 : decode cX1_addValue 29 = .ok (.if_icmp .ge 23, 3) := by decide +kernel
theorem dX1_addValue_32 : decode cX1_addValue 32 = .ok (.aload_n 0, 1) := by decide +kernel
theorem dX1_addValue_33 : decode cX1_addValue 33 = .ok (.getfield 11, 3) := by decide +kernel
theorem dX1_addValue_36 : decode cX1_addValue 36 = .ok (.iload_n 2, 1) := by decide +kernel
theorem dX1_addValue_37 : decode cX1_addValue 37 = .ok (.aload_n 0, 1) := by decide +kernel
theorem dX1_addValue_38 : decode cX1_addValue 38 = .ok (.getfield 11, 3) := by decide +kernel
theorem dX1_addValue_41 : decode cX1_addValue 41 = .ok (.iload_n 2, 1) := by decide +kernel
theorem dX1_addValue_42 : decode cX1_addValue 42 = .ok (.iconst 1, 1) := by decide +kernel
theorem dX1_addValue_43 : decode cX1_addValue 43 = .ok (.isub, 1) := by decide +kernel
theorem dX1_addValue_44 : decode cX1_addValue 44 = .ok (.iaload, 1) := by decide +kernel
theorem dX1_addValue_45 : decode cX1_addValue 45 = .ok (.iastore, 1) := by decide +kernel
theorem dX1_addValue_46 : decode cX1_addValue 46 = .ok (.iinc 2 (-1), 3) := by decide +kernel
theorem dX1_addValue_49 : decode cX1_addValue 49 = .ok (.goto (-33), 3) := by decide +kernel
theorem dX1_addValue_52 : decode cX1_addValue 52 = .ok (.aload_n 0, 1) := by decide +kernel
theorem dX1_addValue_53 : decode cX1_addValue 53 = .ok (.getfield 11, 3) := by decide +kernel
theorem dX1_addValue_56 : decode cX1_addValue 56 = .ok (.iload_n 2, 1) := by decide +kernel
theorem dX1_addValue_57 : decode cX1_addValue 57 = .ok (.iload_n 1, 1) := by decide +kernel
theorem dX1_addValue_58 : decode cX1_addValue 58 = .ok (.iastore, 1) := by decide +kernel
theorem dX1_addValue_59 : decode cX1_addValue 59 = .ok (.aload_n 0, 1) := by decide +kernel
theorem dX1_addValue_60 : decode cX1_addValue 60 = .ok (.dup, 1) := by decide +kernel
theorem dX1_addValue_61 : decode cX1_addValue 61 = .ok (.getfield 18, 3) := by decide +kernel
theorem dX1_addValue_64 : decode cX1_addValue 64 = .ok (.iconst 1, 1) := by decide +kernel
theorem dX1_addValue_65 : decode cX1_addValue 65 = .ok (.iadd, 1) := by decide +kernel
theorem dX1_addValue_66 : decode cX1_addValue 66 = .ok (.putfield 18, 3) := by decide +kernel
theorem dX1_addValue_69 : decode cX1_addValue 69 = .ok (.aload_n 0, 1) := by decide +kernel
theorem dX1_addValue_70 : decode cX1_addValue 70 = .ok (.getfield 18, 3) := by decide +kernel
theorem dX1_addValue_73 : decode cX1_addValue 73 = .ok (.ireturn, 1) := by decide +kernel
theorem dX1_brings_0 : decode cX1_brings 0 = .ok (.iconst 0, 1) := by decide +kernel
theorem dX1_brings_1 : decode cX1_brings 1 = .ok (.istore_n 2, 1) := by decide +kernel
theorem dX1_brings_2 : decode cX1_brings 2 = .ok (.iconst 0, 1) := by decide +kernel
theorem dX1_brings_3 : decode cX1_brings 3 = .ok (.istore_n 3, 1) := by decide +kernel
theorem dX1_brings_4 : decode cX1_brings 4 = .ok (.iload_n 3, 1) := by decide +kernel
theorem dX1_brings_5 : decode cX1_brings 5 = .ok (.aload_n 0, 1) := by decide +kernel
theorem dX1_brings_6 : decode cX1_brings 6 = .ok (.getfield 18, 3) := by decide +kernel
theorem dX1_brings_9 : decode cX1_brings 9 = .ok (.if_icmp .ge 23, 3) := by decide +kernel
theorem dX1_brings_12 : decode cX1_brings 12 = .ok (.aload_n 0, 1) := by decide +kernel
theorem dX1_brings_13 : decode cX1_brings 13 = .ok (.getfield 11, 3) := by decide +kernel
theorem dX1_brings_16 : decode cX1_brings 16 = .ok (.iload_n 3, 1) := by decide +kernel
theorem dX1_brings_17 : decode cX1_brings 17 = .ok (.iaload, 1) := by decide +kernel
theorem dX1_brings_18 : decode cX1_brings 18 = .ok (.iload_n 1, 1) := by decide +kernel
theorem dX1_brings_19 : decode cX1_brings 19 = .ok (.if_icmp .lt 13, 3) := by decide +kernel
theorem dX1_brings_22 : decode cX1_brings 22 = .ok (.iload_n 2, 1) := by decide +kernel
theorem dX1_brings_23 : decode cX1_brings 23 = .ok (.iload_n 1, 1) := by decide +kernel
theorem dX1_brings_24 : decode cX1_brings 24 = .ok (.iadd, 1) := by decide +kernel
theorem dX1_brings_25 : decode cX1_brings 25 = .ok (.istore_n 2, 1) := by decide +kernel
theorem dX1_brings_26 : decode cX1_brings 26 = .ok (.iinc 3 1, 3) := by decide +kernel
theorem dX1_brings_29 : decode cX1_brings 29 = .ok (.goto (-25), 3) := by decide +kernel
theorem dX1_brings_32 : decode cX1_brings 32 = .ok (.iload_n 2, 1) := by decide +kernel
theorem dX1_brings_33 : decode cX1_brings 33 = .ok (.ireturn, 1) := by decide +kernel
theorem dX1_bestPrice_0 : decode cX1_bestPrice 0 = .ok (.iconst 0, 1) := by decide +kernel
theorem dX1_bestPrice_1 : decode cX1_bestPrice 1 = .ok (.istore_n 2, 1) := by decide +kernel
theorem dX1_bestPrice_2 : decode cX1_bestPrice 2 = .ok (.iconst 0, 1) := by decide +kernel
theorem dX1_bestPrice_3 : decode cX1_bestPrice 3 = .ok (.istore_n 3, 1) := by decide +kernel
theorem dX1_bestPrice_4 : decode cX1_bestPrice 4 = .ok (.iconst 0, 1) := by decide +kernel
theorem dX1_bestPrice_5 : decode cX1_bestPrice 5 = .ok (.istore 4, 2) := by decide +kernel
theorem dX1_bestPrice_7 : decode cX1_bestPrice 7 = .ok (.iload 4, 2) := by decide +kernel
theorem dX1_bestPrice_9 : decode cX1_bestPrice 9 = .ok (.aload_n 0, 1) := by decide +kernel
theorem dX1_bestPrice_10 : decode cX1_bestPrice 10 = .ok (.getfield 18, 3) := by decide +kernel
theorem dX1_bestPrice_13 : decode cX1_bestPrice 13 = .ok (.if_icmp .ge 52, 3) := by decide +kernel
theorem dX1_bestPrice_16 : decode cX1_bestPrice 16 = .ok (.aload_n 0, 1) := by decide +kernel
theorem dX1_bestPrice_17 : decode cX1_bestPrice 17 = .ok (.getfield 11, 3) := by decide +kernel
theorem dX1_bestPrice_20 : decode cX1_bestPrice 20 = .ok (.iload 4, 2) := by decide +kernel
theorem dX1_bestPrice_22 : decode cX1_bestPrice 22 = .ok (.iaload, 1) := by decide +kernel
theorem dX1_bestPrice_23 : decode cX1_bestPrice 23 = .ok (.iload_n 1, 1) := by decide +kernel
theorem dX1_bestPrice_24 : decode cX1_bestPrice 24 = .ok (.if_icmp .le 41, 3) := by decide +kernel
theorem dX1_bestPrice_27 : decode cX1_bestPrice 27 = .ok (.aload_n 0, 1) := by decide +kernel
theorem dX1_bestPrice_28 : decode cX1_bestPrice 28 = .ok (.getfield 11, 3) := by decide +kernel
theorem dX1_bestPrice_31 : decode cX1_bestPrice 31 = .ok (.iload 4, 2) := by decide +kernel
theorem dX1_bestPrice_33 : decode cX1_bestPrice 33 = .ok (.iaload, 1) := by decide +kernel
theorem dX1_bestPrice_34 : decode cX1_bestPrice 34 = .ok (.iload_n 1, 1) := by decide +kernel
theorem dX1_bestPrice_35 : decode cX1_bestPrice 35 = .ok (.isub, 1) := by decide +kernel
theorem dX1_bestPrice_36 : decode cX1_bestPrice 36 = .ok (.istore 5, 2) := by decide +kernel
theorem dX1_bestPrice_38 : decode cX1_bestPrice 38 = .ok (.iload 5, 2) := by decide +kernel
theorem dX1_bestPrice_40 : decode cX1_bestPrice 40 = .ok (.iload 4, 2) := by decide +kernel
theorem dX1_bestPrice_42 : decode cX1_bestPrice 42 = .ok (.iconst 1, 1) := by decide +kernel
theorem dX1_bestPrice_43 : decode cX1_bestPrice 43 = .ok (.iadd, 1) := by decide +kernel
theorem dX1_bestPrice_44 : decode cX1_bestPrice 44 = .ok (.imul, 1) := by decide +kernel
theorem dX1_bestPrice_45 : decode cX1_bestPrice 45 = .ok (.istore 6, 2) := by decide +kernel
theorem dX1_bestPrice_47 : decode cX1_bestPrice 47 = .ok (.iload 6, 2) := by decide +kernel
theorem dX1_bestPrice_49 : decode cX1_bestPrice 49 = .ok (.iload_n 3, 1) := by decide +kernel
theorem dX1_bestPrice_50 : decode cX1_bestPrice 50 = .ok (.if_icmp .lt 9, 3) := by decide +kernel
theorem dX1_bestPrice_53 : decode cX1_bestPrice 53 = .ok (.iload 5, 2) := by decide +kernel
theorem dX1_bestPrice_55 : decode cX1_bestPrice 55 = .ok (.istore_n 2, 1) := by decide +kernel
theorem dX1_bestPrice_56 : decode cX1_bestPrice 56 = .ok (.iload 6, 2) := by decide +kernel
theorem dX1_bestPrice_58 : decode cX1_bestPrice 58 = .ok (.istore_n 3, 1) := by decide +kernel
theorem dX1_bestPrice_59 : decode cX1_bestPrice 59 = .ok (.iinc 4 1, 3) := by decide +kernel
theorem dX1_bestPrice_62 : decode cX1_bestPrice 62 = .ok (.goto (-55), 3) := by decide +kernel
theorem dX1_bestPrice_65 : decode cX1_bestPrice 65 = .ok (.iload_n 2, 1) := by decide +kernel
theorem dX1_bestPrice_66 : decode cX1_bestPrice 66 = .ok (.ireturn, 1) := by decide +kernel
theorem dX1_settle_0 : decode cX1_settle 0 = .ok (.aload_n 0, 1) := by decide +kernel
theorem dX1_settle_1 : decode cX1_settle 1 = .ok (.getfield 15, 3) := by decide +kernel
theorem dX1_settle_4 : decode cX1_settle 4 = .ok (.iconst 0, 1) := by decide +kernel
theorem dX1_settle_5 : decode cX1_settle 5 = .ok (.invokestatic 22, 3) := by decide +kernel
theorem dX1_settle_8 : decode cX1_settle 8 = .ok (.iconst 0, 1) := by decide +kernel
theorem dX1_settle_9 : decode cX1_settle 9 = .ok (.istore_n 2, 1) := by decide +kernel
theorem dX1_settle_10 : decode cX1_settle 10 = .ok (.iconst 0, 1) := by decide +kernel
theorem dX1_settle_11 : decode cX1_settle 11 = .ok (.istore_n 3, 1) := by decide +kernel
theorem dX1_settle_12 : decode cX1_settle 12 = .ok (.iload_n 3, 1) := by decide +kernel
theorem dX1_settle_13 : decode cX1_settle 13 = .ok (.bipush 100, 2) := by decide +kernel
theorem dX1_settle_15 : decode cX1_settle 15 = .ok (.if_icmp .ge 93, 3) := by decide +kernel
theorem dX1_settle_18 : decode cX1_settle 18 = .ok (.iconst 0, 1) := by decide +kernel
theorem dX1_settle_19 : decode cX1_settle 19 = .ok (.istore 4, 2) := by decide +kernel
theorem dX1_settle_21 : decode cX1_settle 21 = .ok (.iconst 0, 1) := by decide +kernel
theorem dX1_settle_22 : decode cX1_settle 22 = .ok (.istore 5, 2) := by decide +kernel
theorem dX1_settle_24 : decode cX1_settle 24 = .ok (.iload 5, 2) := by decide +kernel
theorem dX1_settle_26 : decode cX1_settle 26 = .ok (.iload_n 1, 1) := by decide +kernel
theorem dX1_settle_27 : decode cX1_settle 27 = .ok (.if_icmp .ge 68, 3) := by decide +kernel
theorem dX1_settle_30 : decode cX1_settle 30 = .ok (.iload 5, 2) := by decide +kernel
theorem dX1_settle_32 : decode cX1_settle 32 = .ok (.aload_n 0, 1) := by decide +kernel
theorem dX1_settle_33 : decode cX1_settle 33 = .ok (.getfield 15, 3) := by decide +kernel
theorem dX1_settle_36 : decode cX1_settle 36 = .ok (.arraylength, 1) := by decide +kernel
theorem dX1_settle_37 : decode cX1_settle 37 = .ok (.if_icmp .ge 58, 3) := by decide +kernel
theorem dX1_settle_40 : decode cX1_settle 40 = .ok (.iload_n 2, 1) := by decide +kernel
theorem dX1_settle_41 : decode cX1_settle 41 = .ok (.aload_n 0, 1) := by decide +kernel
theorem dX1_settle_42 : decode cX1_settle 42 = .ok (.getfield 15, 3) := by decide +kernel
theorem dX1_settle_45 : decode cX1_settle 45 = .ok (.iload 5, 2) := by decide +kernel
theorem dX1_settle_47 : decode cX1_settle 47 = .ok (.iaload, 1) := by decide +kernel
theorem dX1_settle_48 : decode cX1_settle 48 = .ok (.isub, 1) := by decide +kernel
theorem dX1_settle_49 : decode cX1_settle 49 = .ok (.istore 6, 2) := by decide +kernel
theorem dX1_settle_51 : decode cX1_settle 51 = .ok (.aload_n 0, 1) := by decide +kernel
theorem dX1_settle_52 : decode cX1_settle 52 = .ok (.iload 6, 2) := by decide +kernel
theorem dX1_settle_54 : decode cX1_settle 54 = .ok (.invokevirtual 28, 3) := by decide +kernel
theorem dX1_settle_57 : decode cX1_settle 57 = .ok (.istore 7, 2) := by decide +kernel
theorem dX1_settle_59 : decode cX1_settle 59 = .ok (.iload 7, 2) := by decide +kernel
theorem dX1_settle_61 : decode cX1_settle 61 = .ok (.aload_n 0, 1) := by decide +kernel
theorem dX1_settle_62 : decode cX1_settle 62 = .ok (.getfield 15, 3) := by decide +kernel
theorem dX1_settle_65 : decode cX1_settle 65 = .ok (.iload 5, 2) := by decide +kernel
theorem dX1_settle_67 : decode cX1_settle 67 = .ok (.iaload, 1) := by decide +kernel
theorem dX1_settle_68 : decode cX1_settle 68 = .ok (.if_icmp .eq 21, 3) := by decide +kernel
theorem dX1_settle_71 : decode cX1_settle 71 = .ok (.aload_n 0, 1) := by decide +kernel
theorem dX1_settle_72 : decode cX1_settle 72 = .ok (.getfield 15, 3) := by decide +kernel
theorem dX1_settle_75 : decode cX1_settle 75 = .ok (.iload 5, 2) := by decide +kernel
theorem dX1_settle_77 : decode cX1_settle 77 = .ok (.iload 7, 2) := by decide +kernel
theorem dX1_settle_79 : decode cX1_settle 79 = .ok (.iastore, 1) := by decide +kernel
theorem dX1_settle_80 : decode cX1_settle 80 = .ok (.iload 6, 2) := by decide +kernel
theorem dX1_settle_82 : decode cX1_settle 82 = .ok (.iload 7, 2) := by decide +kernel
theorem dX1_settle_84 : decode cX1_settle 84 = .ok (.iadd, 1) := by decide +kernel
theorem dX1_settle_85 : decode cX1_settle 85 = .ok (.istore_n 2, 1) := by decide +kernel
theorem dX1_settle_86 : decode cX1_settle 86 = .ok (.iconst 1, 1) := by decide +kernel
theorem dX1_settle_87 : decode cX1_settle 87 = .ok (.istore 4, 2) := by decide +kernel
theorem dX1_settle_89 : decode cX1_settle 89 = .ok (.iinc 5 1, 3) := by decide +kernel
theorem dX1_settle_92 : decode cX1_settle 92 = .ok (.goto (-68), 3) := by decide +kernel
theorem dX1_settle_95 : decode cX1_settle 95 = .ok (.iload 4, 2) := by decide +kernel
theorem dX1_settle_97 : decode cX1_settle 97 = .ok (.ifCond .ne 5, 3) := by decide +kernel
theorem dX1_settle_100 : decode cX1_settle 100 = .ok (.iload_n 2, 1) := by decide +kernel
theorem dX1_settle_101 : decode cX1_settle 101 = .ok (.ireturn, 1) := by decide +kernel
theorem dX1_settle_102 : decode cX1_settle 102 = .ok (.iinc 3 1, 3) := by decide +kernel
theorem dX1_settle_105 : decode cX1_settle 105 = .ok (.goto (-93), 3) := by decide +kernel
theorem dX1_settle_108 : decode cX1_settle 108 = .ok (.bipush (-2), 2) := by decide +kernel
theorem dX1_settle_110 : decode cX1_settle 110 = .ok (.ireturn, 1) := by decide +kernel
theorem dX2_init_0 : decode cX2_init 0 = .ok (.aload_n 0, 1) := by decide +kernel
theorem dX2_init_1 : decode cX2_init 1 = .ok (.invokespecial 3, 3) := by decide +kernel
theorem dX2_init_4 : decode cX2_init 4 = .ok (.aload_n 0, 1) := by decide +kernel
theorem dX2_init_5 : decode cX2_init 5 = .ok (.bipush 10, 2) := by decide +kernel
theorem dX2_init_7 : decode cX2_init 7 = .ok (.newarray .int, 2) := by decide +kernel
theorem dX2_init_9 : decode cX2_init 9 = .ok (.putfield 9, 3) := by decide +kernel
theorem dX2_init_12 : decode cX2_init 12 = .ok (.aload_n 0, 1) := by decide +kernel
theorem dX2_init_13 : decode cX2_init 13 = .ok (.bipush 10, 2) := by decide +kernel
theorem dX2_init_15 : decode cX2_init 15 = .ok (.newarray .int, 2) := by decide +kernel
theorem dX2_init_17 : decode cX2_init 17 = .ok (.putfield 15, 3) := by decide +kernel
theorem dX2_init_20 : decode cX2_init 20 = .ok (.aload_n 0, 1) := by decide +kernel
theorem dX2_init_21 : decode cX2_init 21 = .ok (.bipush 10, 2) := by decide +kernel
theorem dX2_init_23 : decode cX2_init 23 = .ok (.anewarray 18, 3) := by decide +kernel
theorem dX2_init_26 : decode cX2_init 26 = .ok (.putfield 20, 3) := by decide +kernel
theorem dX2_init_29 : decode cX2_init 29 = .ok (.aload_n 0, 1) := by decide +kernel
theorem dX2_init_30 : decode cX2_init 30 = .ok (.bipush 8, 2) := by decide +kernel
theorem dX2_init_32 : decode cX2_init 32 = .ok (.newarray .int, 2) := by decide +kernel
theorem dX2_init_34 : decode cX2_init 34 = .ok (.putfield 24, 3) := by decide +kernel
theorem dX2_init_37 : decode cX2_init 37 = .ok (.aload_n 0, 1) := by decide +kernel
theorem dX2_init_38 : decode cX2_init 38 = .ok (.bipush 8, 2) := by decide +kernel
theorem dX2_init_40 : decode cX2_init 40 = .ok (.newarray .int, 2) := by decide +kernel
theorem dX2_init_42 : decode cX2_init 42 = .ok (.putfield 27, 3) := by decide +kernel
theorem dX2_init_45 : decode cX2_init 45 = .ok (.aload_n 0, 1) := by decide +kernel
theorem dX2_init_46 : decode cX2_init 46 = .ok (.bipush 40, 2) := by decide +kernel
theorem dX2_init_48 : decode cX2_init 48 = .ok (.newarray .int, 2) := by decide +kernel
theorem dX2_init_50 : decode cX2_init 50 = .ok (.putfield 30, 3) := by decide +kernel
theorem dX2_init_53 : decode cX2_init 53 = .ok (.aload_n 0, 1) := by decide +kernel
theorem dX2_init_54 : decode cX2_init 54 = .ok (.bipush 40, 2) := by decide +kernel
theorem dX2_init_56 : decode cX2_init 56 = .ok (.newarray .int, 2) := by decide +kernel
theorem dX2_init_58 : decode cX2_init 58 = .ok (.putfield 33, 3) := by decide +kernel
theorem dX2_init_61 : decode cX2_init 61 = .ok (.aload_n 0, 1) := by decide +kernel
theorem dX2_init_62 : decode cX2_init 62 = .ok (.bipush 40, 2) := by decide +kernel
theorem dX2_init_64 : decode cX2_init 64 = .ok (.newarray .int, 2) := by decide +kernel
theorem dX2_init_66 : decode cX2_init 66 = .ok (.putfield 36, 3) := by decide +kernel
theorem dX2_init_69 : decode cX2_init 69 = .ok (.aload_n 0, 1) := by decide +kernel
theorem dX2_init_70 : decode cX2_init 70 = .ok (.bipush 40, 2) := by decide +kernel
theorem dX2_init_72 : decode cX2_init 72 = .ok (.newarray .int, 2) := by decide +kernel
theorem dX2_init_74 : decode cX2_init 74 = .ok (.putfield 39, 3) := by decide +kernel
theorem dX2_init_77 : decode cX2_init 77 = .ok (.aload_n 0, 1) := by decide +kernel
theorem dX2_init_78 : decode cX2_init 78 = .ok (.new 18, 3) := by decide +kernel
theorem dX2_init_81 : decode cX2_init 81 = .ok (.dup, 1) := by decide +kernel
theorem dX2_init_82 : decode cX2_init 82 = .ok (.invokespecial 42, 3) := by decide +kernel
theorem dX2_init_85 : decode cX2_init 85 = .ok (.putfield 43, 3) := by decide +kernel
theorem dX2_init_88 : decode cX2_init 88 = .ok (.aload_n 0, 1) := by decide +kernel
theorem dX2_init_89 : decode cX2_init 89 = .ok (.iconst 1, 1) := by decide +kernel
theorem dX2_init_90 : decode cX2_init 90 = .ok (.putfield 47, 3) := by decide +kernel
theorem dX2_init_93 : decode cX2_init 93 = .ok (.aload_n 0, 1) := by decide +kernel
theorem dX2_init_94 : decode cX2_init 94 = .ok (.new 18, 3) := by decide +kernel
theorem dX2_init_97 : decode cX2_init 97 = .ok (.dup, 1) := by decide +kernel
theorem dX2_init_98 : decode cX2_init 98 = .ok (.invokespecial 42, 3) := by decide +kernel
theorem dX2_init_101 : decode cX2_init 101 = .ok (.putfield 51, 3) := by decide +kernel
theorem dX2_init_104 : decode cX2_init 104 = .ok (.iconst 0, 1) := by decide +kernel
theorem dX2_init_105 : decode cX2_init 105 = .ok (.istore_n 1, 1) := by decide +kernel
theorem dX2_init_106 : decode cX2_init 106 = .ok (.iload_n 1, 1) := by decide +kernel
theorem dX2_init_107 : decode cX2_init 107 = .ok (.aload_n 0, 1) := by decide +kernel
theorem dX2_init_108 : decode cX2_init 108 = .ok (.getfield 20, 3) := by decide +kernel
theorem dX2_init_111 : decode cX2_init 111 = .ok (.arraylength, 1) := by decide +kernel
theorem dX2_init_112 : decode cX2_init 112 = .ok (.if_icmp .ge 22, 3) := by decide +kernel
theorem dX2_init_115 : decode cX2_init 115 = .ok (.aload_n 0, 1) := by decide +kernel
theorem dX2_init_116 : decode cX2_init 116 = .ok (.getfield 20, 3) := by decide +kernel
theorem dX2_init_119 : decode cX2_init 119 = .ok (.iload_n 1, 1) := by decide +kernel
theorem dX2_init_120 : decode cX2_init 120 = .ok (.new 18, 3) := by decide +kernel
theorem dX2_init_123 : decode cX2_init 123 = .ok (.dup, 1) := by decide +kernel
theorem dX2_init_124 : decode cX2_init 124 = .ok (.invokespecial 42, 3) := by decide +kernel
theorem dX2_init_127 : decode cX2_init 127 = .ok (.aastore, 1) := by decide +kernel
theorem dX2_init_128 : decode cX2_init 128 = .ok (.iinc 1 1, 3) := by decide +kernel
theorem dX2_init_131 : decode cX2_init 131 = .ok (.goto (-25), 3) := by decide +kernel
theorem dX2_init_134 : decode cX2_init 134 = .ok (.return_, 1) := by decide +kernel
theorem dX2_isClerk_0 : decode cX2_isClerk 0 = .ok (.iload_n 1, 1) := by decide +kernel
theorem dX2_isClerk_1 : decode cX2_isClerk 1 = .ok (.ifCond .lt 15, 3) := by decide +kernel
theorem dX2_isClerk_4 : decode cX2_isClerk 4 = .ok (.iload_n 1, 1) := by decide +kernel
theorem dX2_isClerk_5 : decode cX2_isClerk 5 = .ok (.aload_n 0, 1) := by decide +kernel
theorem dX2_isClerk_6 : decode cX2_isClerk 6 = .ok (.getfield 54, 3) := by decide +kernel
theorem dX2_isClerk_9 : decode cX2_isClerk 9 = .ok (.if_icmp .ge 7, 3) := by decide +kernel
theorem dX2_isClerk_12 : decode cX2_isClerk 12 = .ok (.iconst 1, 1) := by decide +kernel
theorem dX2_isClerk_13 : decode cX2_isClerk 13 = .ok (.goto 4, 3) := by decide +kernel
theorem dX2_isClerk_16 : decode cX2_isClerk 16 = .ok (.iconst 0, 1) := by decide +kernel
theorem dX2_isClerk_17 : decode cX2_isClerk 17 = .ok (.ireturn, 1) := by decide +kernel
theorem dX2_isStep_0 : decode cX2_isStep 0 = .ok (.iload_n 1, 1) := by decide +kernel
theorem dX2_isStep_1 : decode cX2_isStep 1 = .ok (.ifCond .lt 15, 3) := by decide +kernel
theorem dX2_isStep_4 : decode cX2_isStep 4 = .ok (.iload_n 1, 1) := by decide +kernel
theorem dX2_isStep_5 : decode cX2_isStep 5 = .ok (.aload_n 0, 1) := by decide +kernel
theorem dX2_isStep_6 : decode cX2_isStep 6 = .ok (.getfield 57, 3) := by decide +kernel
theorem dX2_isStep_9 : decode cX2_isStep 9 = .ok (.if_icmp .ge 7, 3) := by decide +kernel
theorem dX2_isStep_12 : decode cX2_isStep 12 = .ok (.iconst 1, 1) := by decide +kernel
theorem dX2_isStep_13 : decode cX2_isStep 13 = .ok (.goto 4, 3) := by decide +kernel
theorem dX2_isStep_16 : decode cX2_isStep 16 = .ok (.iconst 0, 1) := by decide +kernel
theorem dX2_isStep_17 : decode cX2_isStep 17 = .ok (.ireturn, 1) := by decide +kernel
theorem dX2_isFile_0 : decode cX2_isFile 0 = .ok (.iload_n 1, 1) := by decide +kernel
theorem dX2_isFile_1 : decode cX2_isFile 1 = .ok (.ifCond .lt 15, 3) := by decide +kernel
theorem dX2_isFile_4 : decode cX2_isFile 4 = .ok (.iload_n 1, 1) := by decide +kernel
theorem dX2_isFile_5 : decode cX2_isFile 5 = .ok (.aload_n 0, 1) := by decide +kernel
theorem dX2_isFile_6 : decode cX2_isFile 6 = .ok (.getfield 60, 3) := by decide +kernel
theorem dX2_isFile_9 : decode cX2_isFile 9 = .ok (.if_icmp .ge 7, 3) := by decide +kernel
theorem dX2_isFile_12 : decode cX2_isFile 12 = .ok (.iconst 1, 1) := by decide +kernel
theorem dX2_isFile_13 : decode cX2_isFile 13 = .ok (.goto 4, 3) := by decide +kernel
theorem dX2_isFile_16 : decode cX2_isFile 16 = .ok (.iconst 0, 1) := by decide +kernel
theorem dX2_isFile_17 : decode cX2_isFile 17 = .ok (.ireturn, 1) := by decide +kernel
theorem dX2_isSet_0 : decode cX2_isSet 0 = .ok (.iload_n 1, 1) := by decide +kernel
theorem dX2_isSet_1 : decode cX2_isSet 1 = .ok (.ifCond .lt 17, 3) := by decide +kernel
theorem dX2_isSet_4 : decode cX2_isSet 4 = .ok (.iload_n 1, 1) := by decide +kernel
theorem dX2_isSet_5 : decode cX2_isSet 5 = .ok (.iconst 1, 1) := by decide +kernel
theorem dX2_isSet_6 : decode cX2_isSet 6 = .ok (.aload_n 0, 1) := by decide +kernel
theorem dX2_isSet_7 : decode cX2_isSet 7 = .ok (.getfield 54, 3) := by decide +kernel
theorem dX2_isSet_10 : decode cX2_isSet 10 = .ok (.ishl, 1) := by decide +kernel
theorem dX2_isSet_11 : decode cX2_isSet 11 = .ok (.if_icmp .ge 7, 3) := by decide +kernel
theorem dX2_isSet_14 : decode cX2_isSet 14 = .ok (.iconst 1, 1) := by decide +kernel
theorem dX2_isSet_15 : decode cX2_isSet 15 = .ok (.goto 4, 3) := by decide +kernel
theorem dX2_isSet_18 : decode cX2_isSet 18 = .ok (.iconst 0, 1) := by decide +kernel
theorem dX2_isSet_19 : decode cX2_isSet 19 = .ok (.ireturn, 1) := by decide +kernel
theorem dX2_isCrew_0 : decode cX2_isCrew 0 = .ok (.iload_n 1, 1) := by decide +kernel
theorem dX2_isCrew_1 : decode cX2_isCrew 1 = .ok (.ifCond .eq 15, 3) := by decide +kernel
theorem dX2_isCrew_4 : decode cX2_isCrew 4 = .ok (.aload_n 0, 1) := by decide +kernel
theorem dX2_isCrew_5 : decode cX2_isCrew 5 = .ok (.iload_n 1, 1) := by decide +kernel
theorem dX2_isCrew_6 : decode cX2_isCrew 6 = .ok (.invokevirtual 63, 3) := by decide +kernel
theorem dX2_isCrew_9 : decode cX2_isCrew 9 = .ok (.ifCond .eq 7, 3) := by decide +kernel
theorem dX2_isCrew_12 : decode cX2_isCrew 12 = .ok (.iconst 1, 1) := by decide +kernel
theorem dX2_isCrew_13 : decode cX2_isCrew 13 = .ok (.goto 4, 3) := by decide +kernel
theorem dX2_isCrew_16 : decode cX2_isCrew 16 = .ok (.iconst 0, 1) := by decide +kernel
theorem dX2_isCrew_17 : decode cX2_isCrew 17 = .ok (.ireturn, 1) := by decide +kernel
theorem dX2_wayOf_0 : decode cX2_wayOf 0 = .ok (.iload_n 1, 1) := by decide +kernel
theorem dX2_wayOf_1 : decode cX2_wayOf 1 = .ok (.ifCond .lt 21, 3) := by decide +kernel
theorem dX2_wayOf_4 : decode cX2_wayOf 4 = .ok (.iload_n 1, 1) := by decide +kernel
theorem dX2_wayOf_5 : decode cX2_wayOf 5 = .ok (.aload_n 0, 1) := by decide +kernel
theorem dX2_wayOf_6 : decode cX2_wayOf 6 = .ok (.getfield 20, 3) := by decide +kernel
theorem dX2_wayOf_9 : decode cX2_wayOf 9 = .ok (.arraylength, 1) := by decide +kernel
theorem dX2_wayOf_10 : decode cX2_wayOf 10 = .ok (.if_icmp .ge 12, 3) := by decide +kernel
theorem dX2_wayOf_13 : decode cX2_wayOf 13 = .ok (.aload_n 0, 1) := by decide +kernel
theorem dX2_wayOf_14 : decode cX2_wayOf 14 = .ok (.getfield 20, 3) := by decide +kernel
theorem dX2_wayOf_17 : decode cX2_wayOf 17 = .ok (.iload_n 1, 1) := by decide +kernel
theorem dX2_wayOf_18 : decode cX2_wayOf 18 = .ok (.aaload, 1) := by decide +kernel
theorem dX2_wayOf_19 : decode cX2_wayOf 19 = .ok (.goto 7, 3) := by decide +kernel
theorem dX2_wayOf_22 : decode cX2_wayOf 22 = .ok (.aload_n 0, 1) := by decide +kernel
theorem dX2_wayOf_23 : decode cX2_wayOf 23 = .ok (.getfield 51, 3) := by decide +kernel
theorem dX2_wayOf_26 : decode cX2_wayOf 26 = .ok (.astore_n 2, 1) := by decide +kernel
theorem dX2_wayOf_27 : decode cX2_wayOf 27 = .ok (.aload_n 2, 1) := by decide +kernel
theorem dX2_wayOf_28 : decode cX2_wayOf 28 = .ok (.ifnonnull 10, 3) := by decide +kernel
theorem dX2_wayOf_31 : decode cX2_wayOf 31 = .ok (.aload_n 0, 1) := by decide +kernel
theorem dX2_wayOf_32 : decode cX2_wayOf 32 = .ok (.getfield 51, 3) := by decide +kernel
theorem dX2_wayOf_35 : decode cX2_wayOf 35 = .ok (.goto 4, 3) := by decide +kernel
theorem dX2_wayOf_38 : decode cX2_wayOf 38 = .ok (.aload_n 2, 1) := by decide +kernel
theorem dX2_wayOf_39 : decode cX2_wayOf 39 = .ok (.areturn, 1) := by decide +kernel
theorem dX2_addClerk_0 : decode cX2_addClerk 0 = .ok (.aload_n 0, 1) := by decide +kernel
theorem dX2_addClerk_1 : decode cX2_addClerk 1 = .ok (.getfield 54, 3) := by decide +kernel
theorem dX2_addClerk_4 : decode cX2_addClerk 4 = .ok (.bipush 10, 2) := by decide +kernel
theorem dX2_addClerk_6 : decode cX2_addClerk 6 = .ok (.if_icmp .lt 5, 3) := by decide +kernel
theorem dX2_addClerk_9 : decode cX2_addClerk 9 = .ok (.iconst (-1), 1) := by decide +kernel
theorem dX2_addClerk_10 : decode cX2_addClerk 10 = .ok (.ireturn, 1) := by decide +kernel
theorem dX2_addClerk_11 : decode cX2_addClerk 11 = .ok (.aload_n 0, 1) := by decide +kernel
theorem dX2_addClerk_12 : decode cX2_addClerk 12 = .ok (.getfield 9, 3) := by decide +kernel
theorem dX2_addClerk_15 : decode cX2_addClerk 15 = .ok (.aload_n 0, 1) := by decide +kernel
theorem dX2_addClerk_16 : decode cX2_addClerk 16 = .ok (.getfield 54, 3) := by decide +kernel
theorem dX2_addClerk_19 : decode cX2_addClerk 19 = .ok (.iload_n 1, 1) := by decide +kernel
theorem dX2_addClerk_20 : decode cX2_addClerk 20 = .ok (.iastore, 1) := by decide +kernel
theorem dX2_addClerk_21 : decode cX2_addClerk 21 = .ok (.aload_n 0, 1) := by decide +kernel
theorem dX2_addClerk_22 : decode cX2_addClerk 22 = .ok (.getfield 15, 3) := by decide +kernel
theorem dX2_addClerk_25 : decode cX2_addClerk 25 = .ok (.aload_n 0, 1) := by decide +kernel
theorem dX2_addClerk_26 : decode cX2_addClerk 26 = .ok (.getfield 54, 3) := by decide +kernel
theorem dX2_addClerk_29 : decode cX2_addClerk 29 = .ok (.iload_n 2, 1) := by decide +kernel
theorem dX2_addClerk_30 : decode cX2_addClerk 30 = .ok (.iastore, 1) := by decide +kernel
theorem dX2_addClerk_31 : decode cX2_addClerk 31 = .ok (.aload_n 0, 1) := by decide +kernel
theorem dX2_addClerk_32 : decode cX2_addClerk 32 = .ok (.dup, 1) := by decide +kernel
theorem dX2_addClerk_33 : decode cX2_addClerk 33 = .ok (.getfield 54, 3) := by decide +kernel
theorem dX2_addClerk_36 : decode cX2_addClerk 36 = .ok (.iconst 1, 1) := by decide +kernel
theorem dX2_addClerk_37 : decode cX2_addClerk 37 = .ok (.iadd, 1) := by decide +kernel
theorem dX2_addClerk_38 : decode cX2_addClerk 38 = .ok (.putfield 54, 3) := by decide +kernel
theorem dX2_addClerk_41 : decode cX2_addClerk 41 = .ok (.aload_n 0, 1) := by decide +kernel
theorem dX2_addClerk_42 : decode cX2_addClerk 42 = .ok (.getfield 54, 3) := by decide +kernel
theorem dX2_addClerk_45 : decode cX2_addClerk 45 = .ok (.iconst 1, 1) := by decide +kernel
theorem dX2_addClerk_46 : decode cX2_addClerk 46 = .ok (.isub, 1) := by decide +kernel
theorem dX2_addClerk_47 : decode cX2_addClerk 47 = .ok (.ireturn, 1) := by decide +kernel
theorem dX2_addStep_0 : decode cX2_addStep 0 = .ok (.aload_n 0, 1) := by decide +kernel
theorem dX2_addStep_1 : decode cX2_addStep 1 = .ok (.getfield 57, 3) := by decide +kernel
theorem dX2_addStep_4 : decode cX2_addStep 4 = .ok (.bipush 8, 2) := by decide +kernel
theorem dX2_addStep_6 : decode cX2_addStep 6 = .ok (.if_icmp .lt 5, 3) := by decide +kernel
theorem dX2_addStep_9 : decode cX2_addStep 9 = .ok (.iconst (-1), 1) := by decide +kernel
theorem dX2_addStep_10 : decode cX2_addStep 10 = .ok (.ireturn, 1) := by decide +kernel
theorem dX2_addStep_11 : decode cX2_addStep 11 = .ok (.aload_n 0, 1) := by decide +kernel
theorem dX2_addStep_12 : decode cX2_addStep 12 = .ok (.getfield 24, 3) := by decide +kernel
theorem dX2_addStep_15 : decode cX2_addStep 15 = .ok (.aload_n 0, 1) := by decide +kernel
theorem dX2_addStep_16 : decode cX2_addStep 16 = .ok (.getfield 57, 3) := by decide +kernel
theorem dX2_addStep_19 : decode cX2_addStep 19 = .ok (.iload_n 1, 1) := by decide +kernel
theorem dX2_addStep_20 : decode cX2_addStep 20 = .ok (.iastore, 1) := by decide +kernel
theorem dX2_addStep_21 : decode cX2_addStep 21 = .ok (.aload_n 0, 1) := by decide +kernel
theorem dX2_addStep_22 : decode cX2_addStep 22 = .ok (.getfield 27, 3) := by decide +kernel
theorem dX2_addStep_25 : decode cX2_addStep 25 = .ok (.aload_n 0, 1) := by decide +kernel
theorem dX2_addStep_26 : decode cX2_addStep 26 = .ok (.getfield 57, 3) := by decide +kernel
theorem dX2_addStep_29 : decode cX2_addStep 29 = .ok (.iload_n 2, 1) := by decide +kernel
theorem dX2_addStep_30 : decode cX2_addStep 30 = .ok (.iastore, 1) := by decide +kernel
theorem dX2_addStep_31 : decode cX2_addStep 31 = .ok (.aload_n 0, 1) := by decide +kernel
theorem dX2_addStep_32 : decode cX2_addStep 32 = .ok (.dup, 1) := by decide +kernel
theorem dX2_addStep_33 : decode cX2_addStep 33 = .ok (.getfield 57, 3) := by decide +kernel
theorem dX2_addStep_36 : decode cX2_addStep 36 = .ok (.iconst 1, 1) := by decide +kernel
theorem dX2_addStep_37 : decode cX2_addStep 37 = .ok (.iadd, 1) := by decide +kernel
theorem dX2_addStep_38 : decode cX2_addStep 38 = .ok (.putfield 57, 3) := by decide +kernel
theorem dX2_addStep_41 : decode cX2_addStep 41 = .ok (.aload_n 0, 1) := by decide +kernel
theorem dX2_addStep_42 : decode cX2_addStep 42 = .ok (.getfield 57, 3) := by decide +kernel
theorem dX2_addStep_45 : decode cX2_addStep 45 = .ok (.iconst 1, 1) := by decide +kernel
theorem dX2_addStep_46 : decode cX2_addStep 46 = .ok (.isub, 1) := by decide +kernel
theorem dX2_addStep_47 : decode cX2_addStep 47 = .ok (.ireturn, 1) := by decide +kernel
theorem dX2_addFile_0 : decode cX2_addFile 0 = .ok (.aload_n 0, 1) := by decide +kernel
theorem dX2_addFile_1 : decode cX2_addFile 1 = .ok (.getfield 60, 3) := by decide +kernel
theorem dX2_addFile_4 : decode cX2_addFile 4 = .ok (.bipush 40, 2) := by decide +kernel
theorem dX2_addFile_6 : decode cX2_addFile 6 = .ok (.if_icmp .lt 5, 3) := by decide +kernel
theorem dX2_addFile_9 : decode cX2_addFile 9 = .ok (.iconst (-1), 1) := by decide +kernel
theorem dX2_addFile_10 : decode cX2_addFile 10 = .ok (.ireturn, 1) := by decide +kernel
theorem dX2_addFile_11 : decode cX2_addFile 11 = .ok (.aload_n 0, 1) := by decide +kernel
theorem dX2_addFile_12 : decode cX2_addFile 12 = .ok (.getfield 30, 3) := by decide +kernel
theorem dX2_addFile_15 : decode cX2_addFile 15 = .ok (.aload_n 0, 1) := by decide +kernel
theorem dX2_addFile_16 : decode cX2_addFile 16 = .ok (.getfield 60, 3) := by decide +kernel
theorem dX2_addFile_19 : decode cX2_addFile 19 = .ok (.iload_n 1, 1) := by decide +kernel
theorem dX2_addFile_20 : decode cX2_addFile 20 = .ok (.iastore, 1) := by decide +kernel
theorem dX2_addFile_21 : decode cX2_addFile 21 = .ok (.aload_n 0, 1) := by decide +kernel
theorem dX2_addFile_22 : decode cX2_addFile 22 = .ok (.getfield 33, 3) := by decide +kernel
theorem dX2_addFile_25 : decode cX2_addFile 25 = .ok (.aload_n 0, 1) := by decide +kernel
theorem dX2_addFile_26 : decode cX2_addFile 26 = .ok (.getfield 60, 3) := by decide +kernel
theorem dX2_addFile_29 : decode cX2_addFile 29 = .ok (.iload_n 2, 1) := by decide +kernel
theorem dX2_addFile_30 : decode cX2_addFile 30 = .ok (.iastore, 1) := by decide +kernel
theorem dX2_addFile_31 : decode cX2_addFile 31 = .ok (.aload_n 0, 1) := by decide +kernel
theorem dX2_addFile_32 : decode cX2_addFile 32 = .ok (.getfield 36, 3) := by decide +kernel
theorem dX2_addFile_35 : decode cX2_addFile 35 = .ok (.aload_n 0, 1) := by decide +kernel
theorem dX2_addFile_36 : decode cX2_addFile 36 = .ok (.getfield 60, 3) := by decide +kernel
theorem dX2_addFile_39 : decode cX2_addFile 39 = .ok (.iload_n 3, 1) := by decide +kernel
theorem dX2_addFile_40 : decode cX2_addFile 40 = .ok (.iastore, 1) := by decide +kernel
theorem dX2_addFile_41 : decode cX2_addFile 41 = .ok (.aload_n 0, 1) := by decide +kernel
theorem dX2_addFile_42 : decode cX2_addFile 42 = .ok (.getfield 39, 3) := by decide +kernel
theorem dX2_addFile_45 : decode cX2_addFile 45 = .ok (.aload_n 0, 1) := by decide +kernel
theorem dX2_addFile_46 : decode cX2_addFile 46 = .ok (.getfield 60, 3) := by decide +kernel
theorem dX2_addFile_49 : decode cX2_addFile 49 = .ok (.iload 4, 2) := by decide +kernel
theorem dX2_addFile_51 : decode cX2_addFile 51 = .ok (.iastore, 1) := by decide +kernel
theorem dX2_addFile_52 : decode cX2_addFile 52 = .ok (.aload_n 0, 1) := by decide +kernel
theorem dX2_addFile_53 : decode cX2_addFile 53 = .ok (.dup, 1) := by decide +kernel
theorem dX2_addFile_54 : decode cX2_addFile 54 = .ok (.getfield 60, 3) := by decide +kernel
theorem dX2_addFile_57 : decode cX2_addFile 57 = .ok (.iconst 1, 1) := by decide +kernel
theorem dX2_addFile_58 : decode cX2_addFile 58 = .ok (.iadd, 1) := by decide +kernel
theorem dX2_addFile_59 : decode cX2_addFile 59 = .ok (.putfield 60, 3) := by decide +kernel
theorem dX2_addFile_62 : decode cX2_addFile 62 = .ok (.aload_n 0, 1) := by decide +kernel
theorem dX2_addFile_63 : decode cX2_addFile 63 = .ok (.getfield 60, 3) := by decide +kernel
theorem dX2_addFile_66 : decode cX2_addFile 66 = .ok (.iconst 1, 1) := by decide +kernel
theorem dX2_addFile_67 : decode cX2_addFile 67 = .ok (.isub, 1) := by decide +kernel
theorem dX2_addFile_68 : decode cX2_addFile 68 = .ok (.ireturn, 1) := by decide +kernel
theorem dX3_isTry_0 : decode cX3_isTry 0 = .ok (.iload_n 0, 1) := by decide +kernel
theorem dX3_isTry_1 : decode cX3_isTry 1 = .ok (.iconst 1, 1) := by decide +kernel
theorem dX3_isTry_2 : decode cX3_isTry 2 = .ok (.if_icmp .lt 31, 3) := by decide +kernel
theorem dX3_isTry_5 : decode cX3_isTry 5 = .ok (.iload_n 0, 1) := by decide +kernel
theorem dX3_isTry_6 : decode cX3_isTry 6 = .ok (.bipush 10, 2) := by decide +kernel
theorem dX3_isTry_8 : decode cX3_isTry 8 = .ok (.if_icmp .gt 25, 3) := by decide +kernel
theorem dX3_isTry_11 : decode cX3_isTry 11 = .ok (.iload_n 1, 1) := by decide +kernel
theorem dX3_isTry_12 : decode cX3_isTry 12 = .ok (.ifCond .lt 21, 3) := by decide +kernel
theorem dX3_isTry_15 : decode cX3_isTry 15 = .ok (.iload_n 1, 1) := by decide +kernel
theorem dX3_isTry_16 : decode cX3_isTry 16 = .ok (.iload_n 0, 1) := by decide +kernel
theorem dX3_isTry_17 : decode cX3_isTry 17 = .ok (.if_icmp .gt 16, 3) := by decide +kernel
theorem dX3_isTry_20 : decode cX3_isTry 20 = .ok (.iload_n 2, 1) := by decide +kernel
theorem dX3_isTry_21 : decode cX3_isTry 21 = .ok (.ifCond .lt 12, 3) := by decide +kernel
theorem dX3_isTry_24 : decode cX3_isTry 24 = .ok (.iload_n 2, 1) := by decide +kernel
theorem dX3_isTry_25 : decode cX3_isTry 25 = .ok (.iload_n 1, 1) := by decide +kernel
theorem dX3_isTry_26 : decode cX3_isTry 26 = .ok (.if_icmp .gt 7, 3) := by decide +kernel
theorem dX3_isTry_29 : decode cX3_isTry 29 = .ok (.iconst 1, 1) := by decide +kernel
theorem dX3_isTry_30 : decode cX3_isTry 30 = .ok (.goto 4, 3) := by decide +kernel
theorem dX3_isTry_33 : decode cX3_isTry 33 = .ok (.iconst 0, 1) := by decide +kernel
theorem dX3_isTry_34 : decode cX3_isTry 34 = .ok (.ireturn, 1) := by decide +kernel
theorem dX3_above_0 : decode cX3_above 0 = .ok (.iload_n 3, 1) := by decide +kernel
theorem dX3_above_1 : decode cX3_above 1 = .ok (.iload_n 2, 1) := by decide +kernel
theorem dX3_above_2 : decode cX3_above 2 = .ok (.invokestatic 9, 3) := by decide +kernel
theorem dX3_above_5 : decode cX3_above 5 = .ok (.iload_n 0, 1) := by decide +kernel
theorem dX3_above_6 : decode cX3_above 6 = .ok (.iload_n 3, 1) := by decide +kernel
theorem dX3_above_7 : decode cX3_above 7 = .ok (.isub, 1) := by decide +kernel
theorem dX3_above_8 : decode cX3_above 8 = .ok (.iload_n 1, 1) := by decide +kernel
theorem dX3_above_9 : decode cX3_above 9 = .ok (.iload_n 2, 1) := by decide +kernel
theorem dX3_above_10 : decode cX3_above 10 = .ok (.isub, 1) := by decide +kernel
theorem dX3_above_11 : decode cX3_above 11 = .ok (.invokestatic 9, 3) := by decide +kernel
theorem dX3_above_14 : decode cX3_above 14 = .ok (.imul, 1) := by decide +kernel
theorem dX3_above_15 : decode cX3_above 15 = .ok (.ireturn, 1) := by decide +kernel
theorem dX3_choose_0 : decode cX3_choose 0 = .ok (.iload_n 1, 1) := by decide +kernel
theorem dX3_choose_1 : decode cX3_choose 1 = .ok (.ifCond .lt 8, 3) := by decide +kernel
theorem dX3_choose_4 : decode cX3_choose 4 = .ok (.iload_n 1, 1) := by decide +kernel
theorem dX3_choose_5 : decode cX3_choose 5 = .ok (.iload_n 0, 1) := by decide +kernel
theorem dX3_choose_6 : decode cX3_choose 6 = .ok (.if_icmp .le 5, 3) := by decide +kernel
theorem dX3_choose_9 : decode cX3_choose 9 = .ok (.iconst 0, 1) := by decide +kernel
theorem dX3_choose_10 : decode cX3_choose 10 = .ok (.ireturn, 1) := by decide +kernel
theorem dX3_choose_11 : decode cX3_choose 11 = .ok (.iconst 1, 1) := by decide +kernel
theorem dX3_choose_12 : decode cX3_choose 12 = .ok (.istore_n 2, 1) := by decide +kernel
theorem dX3_choose_13 : decode cX3_choose 13 = .ok (.iconst 1, 1) := by decide +kernel
theorem dX3_choose_14 : decode cX3_choose 14 = .ok (.istore_n 3, 1) := by decide +kernel
theorem dX3_choose_15 : decode cX3_choose 15 = .ok (.iload_n 3, 1) := by decide +kernel
theorem dX3_choose_16 : decode cX3_choose 16 = .ok (.iload_n 1, 1) := by decide +kernel
theorem dX3_choose_17 : decode cX3_choose 17 = .ok (.if_icmp .gt 19, 3) := by decide +kernel
theorem dX3_choose_20 : decode cX3_choose 20 = .ok (.iload_n 2, 1) := by decide +kernel
theorem dX3_choose_21 : decode cX3_choose 21 = .ok (.iload_n 0, 1) := by decide +kernel
theorem dX3_choose_22 : decode cX3_choose 22 = .ok (.iload_n 1, 1) := by decide +kernel
theorem dX3_choose_23 : decode cX3_choose 23 = .ok (.isub, 1) := by decide +kernel
theorem dX3_choose_24 : decode cX3_choose 24 = .ok (.iload_n 3, 1) := by decide +kernel
theorem dX3_choose_25 : decode cX3_choose 25 = .ok (.iadd, 1) := by decide +kernel
theorem dX3_choose_26 : decode cX3_choose 26 = .ok (.imul, 1) := by decide +kernel
theorem dX3_choose_27 : decode cX3_choose 27 = .ok (.iload_n 3, 1) := by decide +kernel
theorem dX3_choose_28 : decode cX3_choose 28 = .ok (.idiv, 1) := by decide +kernel
theorem dX3_choose_29 : decode cX3_choose 29 = .ok (.istore_n 2, 1) := by decide +kernel
theorem dX3_choose_30 : decode cX3_choose 30 = .ok (.iinc 3 1, 3) := by decide +kernel
theorem dX3_choose_33 : decode cX3_choose 33 = .ok (.goto (-18), 3) := by decide +kernel
theorem dX3_choose_36 : decode cX3_choose 36 = .ok (.iload_n 2, 1) := by decide +kernel
theorem dX3_choose_37 : decode cX3_choose 37 = .ok (.ireturn, 1) := by decide +kernel
theorem dX3_divisor_0 : decode cX3_divisor 0 = .ok (.iload_n 0, 1) := by decide +kernel
theorem dX3_divisor_1 : decode cX3_divisor 1 = .ok (.istore_n 2, 1) := by decide +kernel
theorem dX3_divisor_2 : decode cX3_divisor 2 = .ok (.iload_n 1, 1) := by decide +kernel
theorem dX3_divisor_3 : decode cX3_divisor 3 = .ok (.istore_n 3, 1) := by decide +kernel
theorem dX3_divisor_4 : decode cX3_divisor 4 = .ok (.iconst 0, 1) := by decide +kernel
theorem dX3_divisor_5 : decode cX3_divisor 5 = .ok (.istore 4, 2) := by decide +kernel
theorem dX3_divisor_7 : decode cX3_divisor 7 = .ok (.iload 4, 2) := by decide +kernel
theorem dX3_divisor_9 : decode cX3_divisor 9 = .ok (.bipush 100, 2) := by decide +kernel
theorem dX3_divisor_11 : decode cX3_divisor 11 = .ok (.if_icmp .ge 23, 3) := by decide +kernel
theorem dX3_divisor_14 : decode cX3_divisor 14 = .ok (.iload_n 3, 1) := by decide +kernel
theorem dX3_divisor_15 : decode cX3_divisor 15 = .ok (.ifCond .eq 19, 3) := by decide +kernel
theorem dX3_divisor_18 : decode cX3_divisor 18 = .ok (.iload_n 2, 1) := by decide +kernel
theorem dX3_divisor_19 : decode cX3_divisor 19 = .ok (.iload_n 3, 1) := by decide +kernel
theorem dX3_divisor_20 : decode cX3_divisor 20 = .ok (.irem, 1) := by decide +kernel
theorem dX3_divisor_21 : decode cX3_divisor 21 = .ok (.istore 5, 2) := by decide +kernel
theorem dX3_divisor_23 : decode cX3_divisor 23 = .ok (.iload_n 3, 1) := by decide +kernel
theorem dX3_divisor_24 : decode cX3_divisor 24 = .ok (.istore_n 2, 1) := by decide +kernel
theorem dX3_divisor_25 : decode cX3_divisor 25 = .ok (.iload 5, 2) := by decide +kernel
theorem dX3_divisor_27 : decode cX3_divisor 27 = .ok (.istore_n 3, 1) := by decide +kernel
theorem dX3_divisor_28 : decode cX3_divisor 28 = .ok (.iinc 4 1, 3) := by decide +kernel
theorem dX3_divisor_31 : decode cX3_divisor 31 = .ok (.goto (-24), 3) := by decide +kernel
theorem dX3_divisor_34 : decode cX3_divisor 34 = .ok (.iload_n 2, 1) := by decide +kernel
theorem dX3_divisor_35 : decode cX3_divisor 35 = .ok (.ireturn, 1) := by decide +kernel
theorem dX4_init_0 : decode cX4_init 0 = .ok (.aload_n 0, 1) := by decide +kernel
theorem dX4_init_1 : decode cX4_init 1 = .ok (.invokespecial 3, 3) := by decide +kernel
theorem dX4_init_4 : decode cX4_init 4 = .ok (.aload_n 0, 1) := by decide +kernel
theorem dX4_init_5 : decode cX4_init 5 = .ok (.bipush 60, 2) := by decide +kernel
theorem dX4_init_7 : decode cX4_init 7 = .ok (.newarray .int, 2) := by decide +kernel
theorem dX4_init_9 : decode cX4_init 9 = .ok (.putfield 11, 3) := by decide +kernel
theorem dX4_init_12 : decode cX4_init 12 = .ok (.aload_n 0, 1) := by decide +kernel
theorem dX4_init_13 : decode cX4_init 13 = .ok (.bipush 60, 2) := by decide +kernel
theorem dX4_init_15 : decode cX4_init 15 = .ok (.newarray .int, 2) := by decide +kernel
theorem dX4_init_17 : decode cX4_init 17 = .ok (.putfield 15, 3) := by decide +kernel
theorem dX4_init_20 : decode cX4_init 20 = .ok (.return_, 1) := by decide +kernel
theorem dX4_addEntry_0 : decode cX4_addEntry 0 = .ok (.aload_n 0, 1) := by decide +kernel
theorem dX4_addEntry_1 : decode cX4_addEntry 1 = .ok (.getfield 18, 3) := by decide +kernel
theorem dX4_addEntry_4 : decode cX4_addEntry 4 = .ok (.bipush 60, 2) := by decide +kernel
theorem dX4_addEntry_6 : decode cX4_addEntry 6 = .ok (.if_icmp .lt 5, 3) := by decide +kernel
theorem dX4_addEntry_9 : decode cX4_addEntry 9 = .ok (.iconst (-1), 1) := by decide +kernel
theorem dX4_addEntry_10 : decode cX4_addEntry 10 = .ok (.ireturn, 1) := by decide +kernel
theorem dX4_addEntry_11 : decode cX4_addEntry 11 = .ok (.aload_n 0, 1) := by decide +kernel
theorem dX4_addEntry_12 : decode cX4_addEntry 12 = .ok (.getfield 18, 3) := by decide +kernel
theorem dX4_addEntry_15 : decode cX4_addEntry 15 = .ok (.istore_n 3, 1) := by decide +kernel
theorem dX4_addEntry_16 : decode cX4_addEntry 16 = .ok (.iload_n 3, 1) := by decide +kernel
theorem dX4_addEntry_17 : decode cX4_addEntry 17 = .ok (.ifCond .le 49, 3) := by decide +kernel
theorem dX4_addEntry_20 : decode cX4_addEntry 20 = .ok (.aload_n 0, 1) := by decide +kernel
theorem dX4_addEntry_21 : decode cX4_addEntry 21 = .ok (.getfield 11, 3) := by decide +kernel
theorem dX4_addEntry_24 : decode cX4_addEntry 24 = .ok (.iload_n 3, 1) := by decide +kernel
theorem dX4_addEntry_25 : decode cX4_addEntry 25 = .ok (.iconst 1, 1) := by decide +kernel
theorem dX4_addEntry_26 : decode cX4_addEntry 26 = .ok (.isub, 1) := by decide +kernel
theorem dX4_addEntry_27 : decode cX4_addEntry 27 = .ok (.iaload, 1) := by decide +kernel
theorem dX4_addEntry_28 : decode cX4_addEntry 28 = .ok (.iload_n 2, 1) := by decide +kernel
theorem dX4_addEntry_29 : decode cX4_addEntry 29 = .ok (.if_icmp .le 37, 3) := by decide +kernel
theorem dX4_addEntry_32 : decode cX4_addEntry 32 = .ok (.aload_n 0, 1) := by decide +kernel
theorem dX4_addEntry_33 : decode cX4_addEntry 33 = .ok (.getfield 11, 3) := by decide +kernel
theorem dX4_addEntry_36 : decode cX4_addEntry 36 = .ok (.iload_n 3, 1) := by decide +kernel
theorem dX4_addEntry_37 : decode cX4_addEntry 37 = .ok (.aload_n 0, 1) := by decide +kernel
theorem dX4_addEntry_38 : decode cX4_addEntry 38 = .ok (.getfield 11, 3) := by decide +kernel
theorem dX4_addEntry_41 : decode cX4_addEntry 41 = .ok (.iload_n 3, 1) := by decide +kernel
theorem dX4_addEntry_42 : decode cX4_addEntry 42 = .ok (.iconst 1, 1) := by decide +kernel
theorem dX4_addEntry_43 : decode cX4_addEntry 43 = .ok (.isub, 1) := by decide +kernel
theorem dX4_addEntry_44 : decode cX4_addEntry 44 = .ok (.iaload, 1) := by decide +kernel
theorem dX4_addEntry_45 : decode cX4_addEntry 45 = .ok (.iastore, 1) := by decide +kernel
theorem dX4_addEntry_46 : decode cX4_addEntry 46 = .ok (.aload_n 0, 1) := by decide +kernel
theorem dX4_addEntry_47 : decode cX4_addEntry 47 = .ok (.getfield 15, 3) := by decide +kernel
theorem dX4_addEntry_50 : decode cX4_addEntry 50 = .ok (.iload_n 3, 1) := by decide +kernel
theorem dX4_addEntry_51 : decode cX4_addEntry 51 = .ok (.aload_n 0, 1) := by decide +kernel
theorem dX4_addEntry_52 : decode cX4_addEntry 52 = .ok (.getfield 15, 3) := by decide +kernel
theorem dX4_addEntry_55 : decode cX4_addEntry 55 = .ok (.iload_n 3, 1) := by decide +kernel
theorem dX4_addEntry_56 : decode cX4_addEntry 56 = .ok (.iconst 1, 1) := by decide +kernel
theorem dX4_addEntry_57 : decode cX4_addEntry 57 = .ok (.isub, 1) := by decide +kernel
theorem dX4_addEntry_58 : decode cX4_addEntry 58 = .ok (.iaload, 1) := by decide +kernel
theorem dX4_addEntry_59 : decode cX4_addEntry 59 = .ok (.iastore, 1) := by decide +kernel
theorem dX4_addEntry_60 : decode cX4_addEntry 60 = .ok (.iinc 3 (-1), 3) := by decide +kernel
theorem dX4_addEntry_63 : decode cX4_addEntry 63 = .ok (.goto (-47), 3) := by decide +kernel
theorem dX4_addEntry_66 : decode cX4_addEntry 66 = .ok (.aload_n 0, 1) := by decide +kernel
theorem dX4_addEntry_67 : decode cX4_addEntry 67 = .ok (.getfield 11, 3) := by decide +kernel
theorem dX4_addEntry_70 : decode cX4_addEntry 70 = .ok (.iload_n 3, 1) := by decide +kernel
theorem dX4_addEntry_71 : decode cX4_addEntry 71 = .ok (.iload_n 2, 1) := by decide +kernel
theorem dX4_addEntry_72 : decode cX4_addEntry 72 = .ok (.iastore, 1) := by decide +kernel
theorem dX4_addEntry_73 : decode cX4_addEntry 73 = .ok (.aload_n 0, 1) := by decide +kernel
theorem dX4_addEntry_74 : decode cX4_addEntry 74 = .ok (.getfield 15, 3) := by decide +kernel
theorem dX4_addEntry_77 : decode cX4_addEntry 77 = .ok (.iload_n 3, 1) := by decide +kernel
theorem dX4_addEntry_78 : decode cX4_addEntry 78 = .ok (.iload_n 1, 1) := by decide +kernel
theorem dX4_addEntry_79 : decode cX4_addEntry 79 = .ok (.iastore, 1) := by decide +kernel
theorem dX4_addEntry_80 : decode cX4_addEntry 80 = .ok (.aload_n 0, 1) := by decide +kernel
theorem dX4_addEntry_81 : decode cX4_addEntry 81 = .ok (.dup, 1) := by decide +kernel
theorem dX4_addEntry_82 : decode cX4_addEntry 82 = .ok (.getfield 18, 3) := by decide +kernel
theorem dX4_addEntry_85 : decode cX4_addEntry 85 = .ok (.iconst 1, 1) := by decide +kernel
theorem dX4_addEntry_86 : decode cX4_addEntry 86 = .ok (.iadd, 1) := by decide +kernel
theorem dX4_addEntry_87 : decode cX4_addEntry 87 = .ok (.putfield 18, 3) := by decide +kernel
theorem dX4_addEntry_90 : decode cX4_addEntry 90 = .ok (.aload_n 0, 1) := by decide +kernel
theorem dX4_addEntry_91 : decode cX4_addEntry 91 = .ok (.getfield 18, 3) := by decide +kernel
theorem dX4_addEntry_94 : decode cX4_addEntry 94 = .ok (.ireturn, 1) := by decide +kernel
theorem dX4_entriesOf_0 : decode cX4_entriesOf 0 = .ok (.iconst 0, 1) := by decide +kernel
theorem dX4_entriesOf_1 : decode cX4_entriesOf 1 = .ok (.istore_n 2, 1) := by decide +kernel
theorem dX4_entriesOf_2 : decode cX4_entriesOf 2 = .ok (.iconst 0, 1) := by decide +kernel
theorem dX4_entriesOf_3 : decode cX4_entriesOf 3 = .ok (.istore_n 3, 1) := by decide +kernel
theorem dX4_entriesOf_4 : decode cX4_entriesOf 4 = .ok (.iload_n 3, 1) := by decide +kernel
theorem dX4_entriesOf_5 : decode cX4_entriesOf 5 = .ok (.aload_n 0, 1) := by decide +kernel
theorem dX4_entriesOf_6 : decode cX4_entriesOf 6 = .ok (.getfield 18, 3) := by decide +kernel
theorem dX4_entriesOf_9 : decode cX4_entriesOf 9 = .ok (.if_icmp .ge 22, 3) := by decide +kernel
theorem dX4_entriesOf_12 : decode cX4_entriesOf 12 = .ok (.aload_n 0, 1) := by decide +kernel
theorem dX4_entriesOf_13 : decode cX4_entriesOf 13 = .ok (.getfield 15, 3) := by decide +kernel
theorem dX4_entriesOf_16 : decode cX4_entriesOf 16 = .ok (.iload_n 3, 1) := by decide +kernel
theorem dX4_entriesOf_17 : decode cX4_entriesOf 17 = .ok (.iaload, 1) := by decide +kernel
theorem dX4_entriesOf_18 : decode cX4_entriesOf 18 = .ok (.iload_n 1, 1) := by decide +kernel
theorem dX4_entriesOf_19 : decode cX4_entriesOf 19 = .ok (.if_icmp .ne 6, 3) := by decide +kernel
theorem dX4_entriesOf_22 : decode cX4_entriesOf 22 = .ok (.iinc 2 1, 3) := by decide +kernel
theorem dX4_entriesOf_25 : decode cX4_entriesOf 25 = .ok (.iinc 3 1, 3) := by decide +kernel
theorem dX4_entriesOf_28 : decode cX4_entriesOf 28 = .ok (.goto (-24), 3) := by decide +kernel
theorem dX4_entriesOf_31 : decode cX4_entriesOf 31 = .ok (.iload_n 2, 1) := by decide +kernel
theorem dX4_entriesOf_32 : decode cX4_entriesOf 32 = .ok (.ireturn, 1) := by decide +kernel
theorem dX4_sumAt_0 : decode cX4_sumAt 0 = .ok (.iload_n 2, 1) := by decide +kernel
theorem dX4_sumAt_1 : decode cX4_sumAt 1 = .ok (.ifCond .ge 5, 3) := by decide +kernel
theorem dX4_sumAt_4 : decode cX4_sumAt 4 = .ok (.iconst 0, 1) := by decide +kernel
theorem dX4_sumAt_5 : decode cX4_sumAt 5 = .ok (.ireturn, 1) := by decide +kernel
theorem dX4_sumAt_6 : decode cX4_sumAt 6 = .ok (.iload_n 2, 1) := by decide +kernel
theorem dX4_sumAt_7 : decode cX4_sumAt 7 = .ok (.istore_n 3, 1) := by decide +kernel
theorem dX4_sumAt_8 : decode cX4_sumAt 8 = .ok (.iconst 0, 1) := by decide +kernel
theorem dX4_sumAt_9 : decode cX4_sumAt 9 = .ok (.istore 4, 2) := by decide +kernel
theorem dX4_sumAt_11 : decode cX4_sumAt 11 = .ok (.iload 4, 2) := by decide +kernel
theorem dX4_sumAt_13 : decode cX4_sumAt 13 = .ok (.aload_n 0, 1) := by decide +kernel
theorem dX4_sumAt_14 : decode cX4_sumAt 14 = .ok (.getfield 18, 3) := by decide +kernel
theorem dX4_sumAt_17 : decode cX4_sumAt 17 = .ok (.if_icmp .ge 35, 3) := by decide +kernel
theorem dX4_sumAt_20 : decode cX4_sumAt 20 = .ok (.aload_n 0, 1) := by decide +kernel
theorem dX4_sumAt_21 : decode cX4_sumAt 21 = .ok (.getfield 15, 3) := by decide +kernel
theorem dX4_sumAt_24 : decode cX4_sumAt 24 = .ok (.iload 4, 2) := by decide +kernel
theorem dX4_sumAt_26 : decode cX4_sumAt 26 = .ok (.iaload, 1) := by decide +kernel
theorem dX4_sumAt_27 : decode cX4_sumAt 27 = .ok (.iload_n 1, 1) := by decide +kernel
theorem dX4_sumAt_28 : decode cX4_sumAt 28 = .ok (.if_icmp .ne 18, 3) := by decide +kernel
theorem dX4_sumAt_31 : decode cX4_sumAt 31 = .ok (.iload_n 3, 1) := by decide +kernel
theorem dX4_sumAt_32 : decode cX4_sumAt 32 = .ok (.ifCond .ne 11, 3) := by decide +kernel
theorem dX4_sumAt_35 : decode cX4_sumAt 35 = .ok (.aload_n 0, 1) := by decide +kernel
theorem dX4_sumAt_36 : decode cX4_sumAt 36 = .ok (.getfield 11, 3) := by decide +kernel
theorem dX4_sumAt_39 : decode cX4_sumAt 39 = .ok (.iload 4, 2) := by decide +kernel
theorem dX4_sumAt_41 : decode cX4_sumAt 41 = .ok (.iaload, 1) := by decide +kernel
theorem dX4_sumAt_42 : decode cX4_sumAt 42 = .ok (.ireturn, 1) := by decide +kernel
theorem dX4_sumAt_43 : decode cX4_sumAt 43 = .ok (.iinc 3 (-1), 3) := by decide +kernel
theorem dX4_sumAt_46 : decode cX4_sumAt 46 = .ok (.iinc 4 1, 3) := by decide +kernel
theorem dX4_sumAt_49 : decode cX4_sumAt 49 = .ok (.goto (-38), 3) := by decide +kernel
theorem dX4_sumAt_52 : decode cX4_sumAt 52 = .ok (.sipush 10000, 3) := by decide +kernel
theorem dX4_sumAt_55 : decode cX4_sumAt 55 = .ok (.ireturn, 1) := by decide +kernel
theorem dX5_init_0 : decode cX5_init 0 = .ok (.aload_n 0, 1) := by decide +kernel
theorem dX5_init_1 : decode cX5_init 1 = .ok (.invokespecial 3, 3) := by decide +kernel
theorem dX5_init_4 : decode cX5_init 4 = .ok (.aload_n 0, 1) := by decide +kernel
theorem dX5_init_5 : decode cX5_init 5 = .ok (.new 9, 3) := by decide +kernel
theorem dX5_init_8 : decode cX5_init 8 = .ok (.dup, 1) := by decide +kernel
theorem dX5_init_9 : decode cX5_init 9 = .ok (.invokespecial 11, 3) := by decide +kernel
theorem dX5_init_12 : decode cX5_init 12 = .ok (.putfield 12, 3) := by decide +kernel
theorem dX5_init_15 : decode cX5_init 15 = .ok (.aload_n 0, 1) := by decide +kernel
theorem dX5_init_16 : decode cX5_init 16 = .ok (.aload_n 1, 1) := by decide +kernel
theorem dX5_init_17 : decode cX5_init 17 = .ok (.putfield 18, 3) := by decide +kernel
theorem dX5_init_20 : decode cX5_init 20 = .ok (.return_, 1) := by decide +kernel
theorem dX5_swapFor_0 : decode cX5_swapFor 0 = .ok (.aload_n 0, 1) := by decide +kernel
theorem dX5_swapFor_1 : decode cX5_swapFor 1 = .ok (.getfield 12, 3) := by decide +kernel
theorem dX5_swapFor_4 : decode cX5_swapFor 4 = .ok (.astore_n 2, 1) := by decide +kernel
theorem dX5_swapFor_5 : decode cX5_swapFor 5 = .ok (.aload_n 0, 1) := by decide +kernel
theorem dX5_swapFor_6 : decode cX5_swapFor 6 = .ok (.aload_n 1, 1) := by decide +kernel
theorem dX5_swapFor_7 : decode cX5_swapFor 7 = .ok (.ifnonnull 13, 3) := by decide +kernel
theorem dX5_swapFor_10 : decode cX5_swapFor 10 = .ok (.new 9, 3) := by decide +kernel
theorem dX5_swapFor_13 : decode cX5_swapFor 13 = .ok (.dup, 1) := by decide +kernel
theorem dX5_swapFor_14 : decode cX5_swapFor 14 = .ok (.invokespecial 11, 3) := by decide +kernel
theorem dX5_swapFor_17 : decode cX5_swapFor 17 = .ok (.goto 4, 3) := by decide +kernel
theorem dX5_swapFor_20 : decode cX5_swapFor 20 = .ok (.aload_n 1, 1) := by decide +kernel
theorem dX5_swapFor_21 : decode cX5_swapFor 21 = .ok (.putfield 12, 3) := by decide +kernel
theorem dX5_swapFor_24 : decode cX5_swapFor 24 = .ok (.aload_n 2, 1) := by decide +kernel
theorem dX5_swapFor_25 : decode cX5_swapFor 25 = .ok (.areturn, 1) := by decide +kernel
theorem dX5_readClauses_0 : decode cX5_readClauses 0 = .ok (.aload_n 0, 1) := by decide +kernel
theorem dX5_readClauses_1 : decode cX5_readClauses 1 = .ok (.iload_n 1, 1) := by decide +kernel
theorem dX5_readClauses_2 : decode cX5_readClauses 2 = .ok (.invokevirtual 22, 3) := by decide +kernel
theorem dX5_readClauses_5 : decode cX5_readClauses 5 = .ok (.iconst 1, 1) := by decide +kernel
theorem dX5_readClauses_6 : decode cX5_readClauses 6 = .ok (.istore_n 3, 1) := by decide +kernel
theorem dX5_readClauses_7 : decode cX5_readClauses 7 = .ok (.iconst 0, 1) := by decide +kernel
theorem dX5_readClauses_8 : decode cX5_readClauses 8 = .ok (.istore 4, 2) := by decide +kernel
theorem dX5_readClauses_10 : decode cX5_readClauses 10 = .ok (.iload_n 3, 1) := by decide +kernel
theorem dX5_readClauses_11 : decode cX5_readClauses 11 = .ok (.ifCond .eq 49, 3) := by decide +kernel
theorem dX5_readClauses_14 : decode cX5_readClauses 14 = .ok (.iload 4, 2) := by decide +kernel
theorem dX5_readClauses_16 : decode cX5_readClauses 16 = .ok (.bipush 12, 2) := by decide +kernel
theorem dX5_readClauses_18 : decode cX5_readClauses 18 = .ok (.if_icmp .gt 42, 3) := by decide +kernel
theorem dX5_readClauses_21 : decode cX5_readClauses 21 = .ok (.aload_n 0, 1) := by decide +kernel
theorem dX5_readClauses_22 : decode cX5_readClauses 22 = .ok (.iload 4, 2) := by decide +kernel
theorem dX5_readClauses_24 : decode cX5_readClauses 24 = .ok (.aload_n 2, 1) := by decide +kernel
theorem dX5_readClauses_25 : decode cX5_readClauses 25 = .ok (.invokevirtual 26, 3) := by decide +kernel
theorem dX5_readClauses_28 : decode cX5_readClauses 28 = .ok (.ifCond .eq 24, 3) := by decide +kernel
theorem dX5_readClauses_31 : decode cX5_readClauses 31 = .ok (.aload_n 0, 1) := by decide +kernel
theorem dX5_readClauses_32 : decode cX5_readClauses 32 = .ok (.getfield 30, 3) := by decide +kernel
theorem dX5_readClauses_35 : decode cX5_readClauses 35 = .ok (.iconst (-1), 1) := by decide +kernel
theorem dX5_readClauses_36 : decode cX5_readClauses 36 = .ok (.if_icmp .eq 16, 3) := by decide +kernel
theorem dX5_readClauses_39 : decode cX5_readClauses 39 = .ok (.aload_n 0, 1) := by decide +kernel
theorem dX5_readClauses_40 : decode cX5_readClauses 40 = .ok (.bipush 59, 2) := by decide +kernel
theorem dX5_readClauses_42 : decode cX5_readClauses 42 = .ok (.invokevirtual 34, 3) := by decide +kernel
theorem dX5_readClauses_45 : decode cX5_readClauses 45 = .ok (.ifCond .eq 7, 3) := by decide +kernel
theorem dX5_readClauses_48 : decode cX5_readClauses 48 = .ok (.iconst 1, 1) := by decide +kernel
theorem dX5_readClauses_49 : decode cX5_readClauses 49 = .ok (.goto 4, 3) := by decide +kernel
theorem dX5_readClauses_52 : decode cX5_readClauses 52 = .ok (.iconst 0, 1) := by decide +kernel
theorem dX5_readClauses_53 : decode cX5_readClauses 53 = .ok (.istore_n 3, 1) := by decide +kernel
theorem dX5_readClauses_54 : decode cX5_readClauses 54 = .ok (.iinc 4 1, 3) := by decide +kernel
theorem dX5_readClauses_57 : decode cX5_readClauses 57 = .ok (.goto (-47), 3) := by decide +kernel
theorem dX5_readClauses_60 : decode cX5_readClauses 60 = .ok (.aload_n 0, 1) := by decide +kernel
theorem dX5_readClauses_61 : decode cX5_readClauses 61 = .ok (.getfield 38, 3) := by decide +kernel
theorem dX5_readClauses_64 : decode cX5_readClauses 64 = .ok (.ifCond .ne 13, 3) := by decide +kernel
theorem dX5_readClauses_67 : decode cX5_readClauses 67 = .ok (.aload_n 0, 1) := by decide +kernel
theorem dX5_readClauses_68 : decode cX5_readClauses 68 = .ok (.getfield 12, 3) := by decide +kernel
theorem dX5_readClauses_71 : decode cX5_readClauses 71 = .ok (.getfield 41, 3) := by decide +kernel
theorem dX5_readClauses_74 : decode cX5_readClauses 74 = .ok (.goto 7, 3) := by decide +kernel
theorem dX5_readClauses_77 : decode cX5_readClauses 77 = .ok (.aload_n 0, 1) := by decide +kernel
theorem dX5_readClauses_78 : decode cX5_readClauses 78 = .ok (.invokevirtual 44, 3) := by decide +kernel
theorem dX5_readClauses_81 : decode cX5_readClauses 81 = .ok (.ireturn, 1) := by decide +kernel
theorem dX5_readSum_0 : decode cX5_readSum 0 = .ok (.aload_n 0, 1) := by decide +kernel
theorem dX5_readSum_1 : decode cX5_readSum 1 = .ok (.iload_n 1, 1) := by decide +kernel
theorem dX5_readSum_2 : decode cX5_readSum 2 = .ok (.invokevirtual 22, 3) := by decide +kernel
theorem dX5_readSum_5 : decode cX5_readSum 5 = .ok (.aload_n 0, 1) := by decide +kernel
theorem dX5_readSum_6 : decode cX5_readSum 6 = .ok (.invokevirtual 48, 3) := by decide +kernel
theorem dX5_readSum_9 : decode cX5_readSum 9 = .ok (.ifCond .eq 23, 3) := by decide +kernel
theorem dX5_readSum_12 : decode cX5_readSum 12 = .ok (.aload_n 0, 1) := by decide +kernel
theorem dX5_readSum_13 : decode cX5_readSum 13 = .ok (.getfield 30, 3) := by decide +kernel
theorem dX5_readSum_16 : decode cX5_readSum 16 = .ok (.iconst (-1), 1) := by decide +kernel
theorem dX5_readSum_17 : decode cX5_readSum 17 = .ok (.if_icmp .eq 11, 3) := by decide +kernel
theorem dX5_readSum_20 : decode cX5_readSum 20 = .ok (.aload_n 0, 1) := by decide +kernel
theorem dX5_readSum_21 : decode cX5_readSum 21 = .ok (.iconst 1, 1) := by decide +kernel
theorem dX5_readSum_22 : decode cX5_readSum 22 = .ok (.invokevirtual 52, 3) := by decide +kernel
theorem dX5_readSum_25 : decode cX5_readSum 25 = .ok (.ifCond .eq 7, 3) := by decide +kernel
theorem dX5_readSum_28 : decode cX5_readSum 28 = .ok (.iconst 1, 1) := by decide +kernel
theorem dX5_readSum_29 : decode cX5_readSum 29 = .ok (.goto 4, 3) := by decide +kernel
theorem dX5_readSum_32 : decode cX5_readSum 32 = .ok (.iconst 0, 1) := by decide +kernel
theorem dX5_readSum_33 : decode cX5_readSum 33 = .ok (.istore_n 2, 1) := by decide +kernel
theorem dX5_readSum_34 : decode cX5_readSum 34 = .ok (.iload_n 2, 1) := by decide +kernel
theorem dX5_readSum_35 : decode cX5_readSum 35 = .ok (.ifCond .eq 7, 3) := by decide +kernel
theorem dX5_readSum_38 : decode cX5_readSum 38 = .ok (.iconst 1, 1) := by decide +kernel
theorem dX5_readSum_39 : decode cX5_readSum 39 = .ok (.goto 7, 3) := by decide +kernel
theorem dX5_readSum_42 : decode cX5_readSum 42 = .ok (.aload_n 0, 1) := by decide +kernel
theorem dX5_readSum_43 : decode cX5_readSum 43 = .ok (.invokevirtual 44, 3) := by decide +kernel
theorem dX5_readSum_46 : decode cX5_readSum 46 = .ok (.ireturn, 1) := by decide +kernel
theorem dX5_begin_0 : decode cX5_begin 0 = .ok (.aload_n 0, 1) := by decide +kernel
theorem dX5_begin_1 : decode cX5_begin 1 = .ok (.iload_n 1, 1) := by decide +kernel
theorem dX5_begin_2 : decode cX5_begin 2 = .ok (.putfield 56, 3) := by decide +kernel
theorem dX5_begin_5 : decode cX5_begin 5 = .ok (.aload_n 0, 1) := by decide +kernel
theorem dX5_begin_6 : decode cX5_begin 6 = .ok (.iconst 0, 1) := by decide +kernel
theorem dX5_begin_7 : decode cX5_begin 7 = .ok (.putfield 59, 3) := by decide +kernel
theorem dX5_begin_10 : decode cX5_begin 10 = .ok (.aload_n 0, 1) := by decide +kernel
theorem dX5_begin_11 : decode cX5_begin 11 = .ok (.iconst 0, 1) := by decide +kernel
theorem dX5_begin_12 : decode cX5_begin 12 = .ok (.putfield 38, 3) := by decide +kernel
theorem dX5_begin_15 : decode cX5_begin 15 = .ok (.aload_n 0, 1) := by decide +kernel
theorem dX5_begin_16 : decode cX5_begin 16 = .ok (.getfield 12, 3) := by decide +kernel
theorem dX5_begin_19 : decode cX5_begin 19 = .ok (.invokevirtual 62, 3) := by decide +kernel
theorem dX5_begin_22 : decode cX5_begin 22 = .ok (.aload_n 0, 1) := by decide +kernel
theorem dX5_begin_23 : decode cX5_begin 23 = .ok (.iconst (-1), 1) := by decide +kernel
theorem dX5_begin_24 : decode cX5_begin 24 = .ok (.putfield 65, 3) := by decide +kernel
theorem dX5_begin_27 : decode cX5_begin 27 = .ok (.aload_n 0, 1) := by decide +kernel
theorem dX5_begin_28 : decode cX5_begin 28 = .ok (.invokevirtual 68, 3) := by decide +kernel
theorem dX5_begin_31 : decode cX5_begin 31 = .ok (.return_, 1) := by decide +kernel
theorem dX5_advance_0 : decode cX5_advance 0 = .ok (.aload_n 0, 1) := by decide +kernel
theorem dX5_advance_1 : decode cX5_advance 1 = .ok (.dup, 1) := by decide +kernel
theorem dX5_advance_2 : decode cX5_advance 2 = .ok (.getfield 65, 3) := by decide +kernel
theorem dX5_advance_5 : decode cX5_advance 5 = .ok (.iconst 1, 1) := by decide +kernel
theorem dX5_advance_6 : decode cX5_advance 6 = .ok (.iadd, 1) := by decide +kernel
theorem dX5_advance_7 : decode cX5_advance 7 = .ok (.putfield 65, 3) := by decide +kernel
theorem dX5_advance_10 : decode cX5_advance 10 = .ok (.aload_n 0, 1) := by decide +kernel
theorem dX5_advance_11 : decode cX5_advance 11 = .ok (.aload_n 0, 1) := by decide +kernel
theorem dX5_advance_12 : decode cX5_advance 12 = .ok (.getfield 65, 3) := by decide +kernel
theorem dX5_advance_15 : decode cX5_advance 15 = .ok (.aload_n 0, 1) := by decide +kernel
theorem dX5_advance_16 : decode cX5_advance 16 = .ok (.getfield 56, 3) := by decide +kernel
theorem dX5_advance_19 : decode cX5_advance 19 = .ok (.if_icmp .ge 17, 3) := by decide +kernel
theorem dX5_advance_22 : decode cX5_advance 22 = .ok (.aload_n 0, 1) := by decide +kernel
theorem dX5_advance_23 : decode cX5_advance 23 = .ok (.getfield 18, 3) := by decide +kernel
theorem dX5_advance_26 : decode cX5_advance 26 = .ok (.aload_n 0, 1) := by decide +kernel
theorem dX5_advance_27 : decode cX5_advance 27 = .ok (.getfield 65, 3) := by decide +kernel
theorem dX5_advance_30 : decode cX5_advance 30 = .ok (.invokevirtual 71, 3) := by decide +kernel
theorem dX5_advance_33 : decode cX5_advance 33 = .ok (.goto 4, 3) := by decide +kernel
theorem dX5_advance_36 : decode cX5_advance 36 = .ok (.iconst (-1), 1) := by decide +kernel
theorem dX5_advance_37 : decode cX5_advance 37 = .ok (.putfield 30, 3) := by decide +kernel
theorem dX5_advance_40 : decode cX5_advance 40 = .ok (.return_, 1) := by decide +kernel
theorem dX5_faultHere_0 : decode cX5_faultHere 0 = .ok (.sipush (-1000), 3) := by decide +kernel
theorem dX5_faultHere_3 : decode cX5_faultHere 3 = .ok (.aload_n 0, 1) := by decide +kernel
theorem dX5_faultHere_4 : decode cX5_faultHere 4 = .ok (.getfield 38, 3) := by decide +kernel
theorem dX5_faultHere_7 : decode cX5_faultHere 7 = .ok (.imul, 1) := by decide +kernel
theorem dX5_faultHere_8 : decode cX5_faultHere 8 = .ok (.aload_n 0, 1) := by decide +kernel
theorem dX5_faultHere_9 : decode cX5_faultHere 9 = .ok (.getfield 65, 3) := by decide +kernel
theorem dX5_faultHere_12 : decode cX5_faultHere 12 = .ok (.isub, 1) := by decide +kernel
theorem dX5_faultHere_13 : decode cX5_faultHere 13 = .ok (.ireturn, 1) := by decide +kernel
theorem dX5_fail_0 : decode cX5_fail 0 = .ok (.aload_n 0, 1) := by decide +kernel
theorem dX5_fail_1 : decode cX5_fail 1 = .ok (.iload_n 1, 1) := by decide +kernel
theorem dX5_fail_2 : decode cX5_fail 2 = .ok (.putfield 38, 3) := by decide +kernel
theorem dX5_fail_5 : decode cX5_fail 5 = .ok (.iconst 0, 1) := by decide +kernel
theorem dX5_fail_6 : decode cX5_fail 6 = .ok (.ireturn, 1) := by decide +kernel
theorem dX5_sees_0 : decode cX5_sees 0 = .ok (.aload_n 0, 1) := by decide +kernel
theorem dX5_sees_1 : decode cX5_sees 1 = .ok (.getfield 30, 3) := by decide +kernel
theorem dX5_sees_4 : decode cX5_sees 4 = .ok (.iconst (-1), 1) := by decide +kernel
theorem dX5_sees_5 : decode cX5_sees 5 = .ok (.if_icmp .eq 19, 3) := by decide +kernel
theorem dX5_sees_8 : decode cX5_sees 8 = .ok (.aload_n 1, 1) := by decide +kernel
theorem dX5_sees_9 : decode cX5_sees 9 = .ok (.aload_n 0, 1) := by decide +kernel
theorem dX5_sees_10 : decode cX5_sees 10 = .ok (.getfield 30, 3) := by decide +kernel
theorem dX5_sees_13 : decode cX5_sees 13 = .ok (.i2c, 1) := by decide +kernel
theorem dX5_sees_14 : decode cX5_sees 14 = .ok (.invokevirtual 77, 3) := by decide +kernel
theorem dX5_sees_17 : decode cX5_sees 17 = .ok (.ifCond .lt 7, 3) := by decide +kernel
theorem dX5_sees_20 : decode cX5_sees 20 = .ok (.iconst 1, 1) := by decide +kernel
theorem dX5_sees_21 : decode cX5_sees 21 = .ok (.goto 4, 3) := by decide +kernel
theorem dX5_sees_24 : decode cX5_sees 24 = .ok (.iconst 0, 1) := by decide +kernel
theorem dX5_sees_25 : decode cX5_sees 25 = .ok (.ireturn, 1) := by decide +kernel
theorem dX5_seesDigit_0 : decode cX5_seesDigit 0 = .ok (.aload_n 0, 1) := by decide +kernel
theorem dX5_seesDigit_1 : decode cX5_seesDigit 1 = .ok (.getfield 30, 3) := by decide +kernel
theorem dX5_seesDigit_4 : decode cX5_seesDigit 4 = .ok (.bipush 48, 2) := by decide +kernel
theorem dX5_seesDigit_6 : decode cX5_seesDigit 6 = .ok (.if_icmp .lt 16, 3) := by decide +kernel
theorem dX5_seesDigit_9 : decode cX5_seesDigit 9 = .ok (.aload_n 0, 1) := by decide +kernel
theorem dX5_seesDigit_10 : decode cX5_seesDigit 10 = .ok (.getfield 30, 3) := by decide +kernel
theorem dX5_seesDigit_13 : decode cX5_seesDigit 13 = .ok (.bipush 57, 2) := by decide +kernel
theorem dX5_seesDigit_15 : decode cX5_seesDigit 15 = .ok (.if_icmp .gt 7, 3) := by decide +kernel
theorem dX5_seesDigit_18 : decode cX5_seesDigit 18 = .ok (.iconst 1, 1) := by decide +kernel
theorem dX5_seesDigit_19 : decode cX5_seesDigit 19 = .ok (.goto 4, 3) := by decide +kernel
theorem dX5_seesDigit_22 : decode cX5_seesDigit 22 = .ok (.iconst 0, 1) := by decide +kernel
theorem dX5_seesDigit_23 : decode cX5_seesDigit 23 = .ok (.ireturn, 1) := by decide +kernel
theorem dX5_take_0 : decode cX5_take 0 = .ok (.aload_n 0, 1) := by decide +kernel
theorem dX5_take_1 : decode cX5_take 1 = .ok (.getfield 30, 3) := by decide +kernel
theorem dX5_take_4 : decode cX5_take 4 = .ok (.iload_n 1, 1) := by decide +kernel
theorem dX5_take_5 : decode cX5_take 5 = .ok (.if_icmp .eq 9, 3) := by decide +kernel
theorem dX5_take_8 : decode cX5_take 8 = .ok (.aload_n 0, 1) := by decide +kernel
theorem dX5_take_9 : decode cX5_take 9 = .ok (.iconst 1, 1) := by decide +kernel
theorem dX5_take_10 : decode cX5_take 10 = .ok (.invokevirtual 52, 3) := by decide +kernel
theorem dX5_take_13 : decode cX5_take 13 = .ok (.ireturn, 1) := by decide +kernel
theorem dX5_take_14 : decode cX5_take 14 = .ok (.aload_n 0, 1) := by decide +kernel
theorem dX5_take_15 : decode cX5_take 15 = .ok (.invokevirtual 68, 3) := by decide +kernel
theorem dX5_take_18 : decode cX5_take 18 = .ok (.iconst 1, 1) := by decide +kernel
theorem dX5_take_19 : decode cX5_take 19 = .ok (.ireturn, 1) := by decide +kernel
theorem dX5_enter_0 : decode cX5_enter 0 = .ok (.aload_n 0, 1) := by decide +kernel
theorem dX5_enter_1 : decode cX5_enter 1 = .ok (.getfield 59, 3) := by decide +kernel
theorem dX5_enter_4 : decode cX5_enter 4 = .ok (.bipush 6, 2) := by decide +kernel
theorem dX5_enter_6 : decode cX5_enter 6 = .ok (.if_icmp .lt 9, 3) := by decide +kernel
theorem dX5_enter_9 : decode cX5_enter 9 = .ok (.aload_n 0, 1) := by decide +kernel
theorem dX5_enter_10 : decode cX5_enter 10 = .ok (.iconst 5, 1) := by decide +kernel
theorem dX5_enter_11 : decode cX5_enter 11 = .ok (.invokevirtual 52, 3) := by decide +kernel
theorem dX5_enter_14 : decode cX5_enter 14 = .ok (.ireturn, 1) := by decide +kernel
theorem dX5_enter_15 : decode cX5_enter 15 = .ok (.aload_n 0, 1) := by decide +kernel
theorem dX5_enter_16 : decode cX5_enter 16 = .ok (.dup, 1) := by decide +kernel
theorem dX5_enter_17 : decode cX5_enter 17 = .ok (.getfield 59, 3) := by decide +kernel
theorem dX5_enter_20 : decode cX5_enter 20 = .ok (.iconst 1, 1) := by decide +kernel
theorem dX5_enter_21 : decode cX5_enter 21 = .ok (.iadd, 1) := by decide +kernel
theorem dX5_enter_22 : decode cX5_enter 22 = .ok (.putfield 59, 3) := by decide +kernel
theorem dX5_enter_25 : decode cX5_enter 25 = .ok (.aload_n 0, 1) := by decide +kernel
theorem dX5_enter_26 : decode cX5_enter 26 = .ok (.invokevirtual 68, 3) := by decide +kernel
theorem dX5_enter_29 : decode cX5_enter 29 = .ok (.iconst 1, 1) := by decide +kernel
theorem dX5_enter_30 : decode cX5_enter 30 = .ok (.ireturn, 1) := by decide +kernel
theorem dX5_readClause_0 : decode cX5_readClause 0 = .ok (.aload_n 0, 1) := by decide +kernel
theorem dX5_readClause_1 : decode cX5_readClause 1 = .ok (.aload_n 2, 1) := by decide +kernel
theorem dX5_readClause_2 : decode cX5_readClause 2 = .ok (.invokevirtual 82, 3) := by decide +kernel
theorem dX5_readClause_5 : decode cX5_readClause 5 = .ok (.ifCond .ne 9, 3) := by decide +kernel
theorem dX5_readClause_8 : decode cX5_readClause 8 = .ok (.aload_n 0, 1) := by decide +kernel
theorem dX5_readClause_9 : decode cX5_readClause 9 = .ok (.iconst 1, 1) := by decide +kernel
theorem dX5_readClause_10 : decode cX5_readClause 10 = .ok (.invokevirtual 52, 3) := by decide +kernel
theorem dX5_readClause_13 : decode cX5_readClause 13 = .ok (.ireturn, 1) := by decide +kernel
theorem dX5_readClause_14 : decode cX5_readClause 14 = .ok (.iload_n 1, 1) := by decide +kernel
theorem dX5_readClause_15 : decode cX5_readClause 15 = .ok (.bipush 12, 2) := by decide +kernel
theorem dX5_readClause_17 : decode cX5_readClause 17 = .ok (.if_icmp .lt 9, 3) := by decide +kernel
theorem dX5_readClause_20 : decode cX5_readClause 20 = .ok (.aload_n 0, 1) := by decide +kernel
theorem dX5_readClause_21 : decode cX5_readClause 21 = .ok (.iconst 4, 1) := by decide +kernel
theorem dX5_readClause_22 : decode cX5_readClause 22 = .ok (.invokevirtual 52, 3) := by decide +kernel
theorem dX5_readClause_25 : decode cX5_readClause 25 = .ok (.ireturn, 1) := by decide +kernel
theorem dX5_readClause_26 : decode cX5_readClause 26 = .ok (.aload_n 0, 1) := by decide +kernel
theorem dX5_readClause_27 : decode cX5_readClause 27 = .ok (.getfield 12, 3) := by decide +kernel
theorem dX5_readClause_30 : decode cX5_readClause 30 = .ok (.getfield 86, 3) := by decide +kernel
theorem dX5_readClause_33 : decode cX5_readClause 33 = .ok (.iload_n 1, 1) := by decide +kernel
theorem dX5_readClause_34 : decode cX5_readClause 34 = .ok (.aload_n 0, 1) := by decide +kernel
theorem dX5_readClause_35 : decode cX5_readClause 35 = .ok (.getfield 30, 3) := by decide +kernel
theorem dX5_readClause_38 : decode cX5_readClause 38 = .ok (.iastore, 1) := by decide +kernel
theorem dX5_readClause_39 : decode cX5_readClause 39 = .ok (.aload_n 0, 1) := by decide +kernel
theorem dX5_readClause_40 : decode cX5_readClause 40 = .ok (.getfield 12, 3) := by decide +kernel
theorem dX5_readClause_43 : decode cX5_readClause 43 = .ok (.getfield 90, 3) := by decide +kernel
theorem dX5_readClause_46 : decode cX5_readClause 46 = .ok (.iload_n 1, 1) := by decide +kernel
theorem dX5_readClause_47 : decode cX5_readClause 47 = .ok (.aload_n 0, 1) := by decide +kernel
theorem dX5_readClause_48 : decode cX5_readClause 48 = .ok (.getfield 12, 3) := by decide +kernel
theorem dX5_readClause_51 : decode cX5_readClause 51 = .ok (.getfield 93, 3) := by decide +kernel
theorem dX5_readClause_54 : decode cX5_readClause 54 = .ok (.iastore, 1) := by decide +kernel
theorem dX5_readClause_55 : decode cX5_readClause 55 = .ok (.aload_n 0, 1) := by decide +kernel
theorem dX5_readClause_56 : decode cX5_readClause 56 = .ok (.invokevirtual 68, 3) := by decide +kernel
theorem dX5_readClause_59 : decode cX5_readClause 59 = .ok (.aload_n 0, 1) := by decide +kernel
theorem dX5_readClause_60 : decode cX5_readClause 60 = .ok (.invokevirtual 48, 3) := by decide +kernel
theorem dX5_readClause_63 : decode cX5_readClause 63 = .ok (.ifCond .ne 5, 3) := by decide +kernel
theorem dX5_readClause_66 : decode cX5_readClause 66 = .ok (.iconst 0, 1) := by decide +kernel
theorem dX5_readClause_67 : decode cX5_readClause 67 = .ok (.ireturn, 1) := by decide +kernel
theorem dX5_readClause_68 : decode cX5_readClause 68 = .ok (.aload_n 0, 1) := by decide +kernel
theorem dX5_readClause_69 : decode cX5_readClause 69 = .ok (.getfield 12, 3) := by decide +kernel
theorem dX5_readClause_72 : decode cX5_readClause 72 = .ok (.getfield 94, 3) := by decide +kernel
theorem dX5_readClause_75 : decode cX5_readClause 75 = .ok (.iload_n 1, 1) := by decide +kernel
theorem dX5_readClause_76 : decode cX5_readClause 76 = .ok (.aload_n 0, 1) := by decide +kernel
theorem dX5_readClause_77 : decode cX5_readClause 77 = .ok (.getfield 12, 3) := by decide +kernel
theorem dX5_readClause_80 : decode cX5_readClause 80 = .ok (.getfield 93, 3) := by decide +kernel
theorem dX5_readClause_83 : decode cX5_readClause 83 = .ok (.iastore, 1) := by decide +kernel
theorem dX5_readClause_84 : decode cX5_readClause 84 = .ok (.aload_n 0, 1) := by decide +kernel
theorem dX5_readClause_85 : decode cX5_readClause 85 = .ok (.getfield 30, 3) := by decide +kernel
theorem dX5_readClause_88 : decode cX5_readClause 88 = .ok (.bipush 40, 2) := by decide +kernel
theorem dX5_readClause_90 : decode cX5_readClause 90 = .ok (.if_icmp .eq 9, 3) := by decide +kernel
theorem dX5_readClause_93 : decode cX5_readClause 93 = .ok (.aload_n 0, 1) := by decide +kernel
theorem dX5_readClause_94 : decode cX5_readClause 94 = .ok (.iconst 1, 1) := by decide +kernel
theorem dX5_readClause_95 : decode cX5_readClause 95 = .ok (.invokevirtual 52, 3) := by decide +kernel
theorem dX5_readClause_98 : decode cX5_readClause 98 = .ok (.ireturn, 1) := by decide +kernel
theorem dX5_readClause_99 : decode cX5_readClause 99 = .ok (.aload_n 0, 1) := by decide +kernel
theorem dX5_readClause_100 : decode cX5_readClause 100 = .ok (.invokevirtual 97, 3) := by decide +kernel
theorem dX5_readClause_103 : decode cX5_readClause 103 = .ok (.ifCond .eq 19, 3) := by decide +kernel
theorem dX5_readClause_106 : decode cX5_readClause 106 = .ok (.aload_n 0, 1) := by decide +kernel
theorem dX5_readClause_107 : decode cX5_readClause 107 = .ok (.invokevirtual 100, 3) := by decide +kernel
theorem dX5_readClause_110 : decode cX5_readClause 110 = .ok (.ifCond .eq 12, 3) := by decide +kernel
theorem dX5_readClause_113 : decode cX5_readClause 113 = .ok (.aload_n 0, 1) := by decide +kernel
theorem dX5_readClause_114 : decode cX5_readClause 114 = .ok (.bipush 41, 2) := by decide +kernel
theorem dX5_readClause_116 : decode cX5_readClause 116 = .ok (.invokevirtual 34, 3) := by decide +kernel
theorem dX5_readClause_119 : decode cX5_readClause 119 = .ok (.ifCond .ne 5, 3) := by decide +kernel
theorem dX5_readClause_122 : decode cX5_readClause 122 = .ok (.iconst 0, 1) := by decide +kernel
theorem dX5_readClause_123 : decode cX5_readClause 123 = .ok (.ireturn, 1) := by decide +kernel
theorem dX5_readClause_124 : decode cX5_readClause 124 = .ok (.aload_n 0, 1) := by decide +kernel
theorem dX5_readClause_125 : decode cX5_readClause 125 = .ok (.dup, 1) := by decide +kernel
theorem dX5_readClause_126 : decode cX5_readClause 126 = .ok (.getfield 59, 3) := by decide +kernel
theorem dX5_readClause_129 : decode cX5_readClause 129 = .ok (.iconst 1, 1) := by decide +kernel
theorem dX5_readClause_130 : decode cX5_readClause 130 = .ok (.isub, 1) := by decide +kernel
theorem dX5_readClause_131 : decode cX5_readClause 131 = .ok (.putfield 59, 3) := by decide +kernel
theorem dX5_readClause_134 : decode cX5_readClause 134 = .ok (.aload_n 0, 1) := by decide +kernel
theorem dX5_readClause_135 : decode cX5_readClause 135 = .ok (.getfield 12, 3) := by decide +kernel
theorem dX5_readClause_138 : decode cX5_readClause 138 = .ok (.getfield 103, 3) := by decide +kernel
theorem dX5_readClause_141 : decode cX5_readClause 141 = .ok (.iload_n 1, 1) := by decide +kernel
theorem dX5_readClause_142 : decode cX5_readClause 142 = .ok (.aload_n 0, 1) := by decide +kernel
theorem dX5_readClause_143 : decode cX5_readClause 143 = .ok (.getfield 12, 3) := by decide +kernel
theorem dX5_readClause_146 : decode cX5_readClause 146 = .ok (.getfield 93, 3) := by decide +kernel
theorem dX5_readClause_149 : decode cX5_readClause 149 = .ok (.iastore, 1) := by decide +kernel
theorem dX5_readClause_150 : decode cX5_readClause 150 = .ok (.aload_n 0, 1) := by decide +kernel
theorem dX5_readClause_151 : decode cX5_readClause 151 = .ok (.getfield 12, 3) := by decide +kernel
theorem dX5_readClause_154 : decode cX5_readClause 154 = .ok (.iload_n 1, 1) := by decide +kernel
theorem dX5_readClause_155 : decode cX5_readClause 155 = .ok (.iconst 1, 1) := by decide +kernel
theorem dX5_readClause_156 : decode cX5_readClause 156 = .ok (.iadd, 1) := by decide +kernel
theorem dX5_readClause_157 : decode cX5_readClause 157 = .ok (.putfield 41, 3) := by decide +kernel
theorem dX5_readClause_160 : decode cX5_readClause 160 = .ok (.iconst 1, 1) := by decide +kernel
theorem dX5_readClause_161 : decode cX5_readClause 161 = .ok (.ireturn, 1) := by decide +kernel
theorem dX5_readParts_0 : decode cX5_readParts 0 = .ok (.aload_n 0, 1) := by decide +kernel
theorem dX5_readParts_1 : decode cX5_readParts 1 = .ok (.invokevirtual 106, 3) := by decide +kernel
theorem dX5_readParts_4 : decode cX5_readParts 4 = .ok (.istore_n 1, 1) := by decide +kernel
theorem dX5_readParts_5 : decode cX5_readParts 5 = .ok (.iconst 0, 1) := by decide +kernel
theorem dX5_readParts_6 : decode cX5_readParts 6 = .ok (.istore_n 2, 1) := by decide +kernel
theorem dX5_readParts_7 : decode cX5_readParts 7 = .ok (.iload_n 1, 1) := by decide +kernel
theorem dX5_readParts_8 : decode cX5_readParts 8 = .ok (.ifCond .eq 54, 3) := by decide +kernel
theorem dX5_readParts_11 : decode cX5_readParts 11 = .ok (.aload_n 0, 1) := by decide +kernel
theorem dX5_readParts_12 : decode cX5_readParts 12 = .ok (.getfield 30, 3) := by decide +kernel
theorem dX5_readParts_15 : decode cX5_readParts 15 = .ok (.bipush 124, 2) := by decide +kernel
theorem dX5_readParts_17 : decode cX5_readParts 17 = .ok (.if_icmp .ne 45, 3) := by decide +kernel
theorem dX5_readParts_20 : decode cX5_readParts 20 = .ok (.iload_n 2, 1) := by decide +kernel
theorem dX5_readParts_21 : decode cX5_readParts 21 = .ok (.aload_n 0, 1) := by decide +kernel
theorem dX5_readParts_22 : decode cX5_readParts 22 = .ok (.getfield 56, 3) := by decide +kernel
theorem dX5_readParts_25 : decode cX5_readParts 25 = .ok (.if_icmp .ge 37, 3) := by decide +kernel
theorem dX5_readParts_28 : decode cX5_readParts 28 = .ok (.aload_n 0, 1) := by decide +kernel
theorem dX5_readParts_29 : decode cX5_readParts 29 = .ok (.invokevirtual 68, 3) := by decide +kernel
theorem dX5_readParts_32 : decode cX5_readParts 32 = .ok (.aload_n 0, 1) := by decide +kernel
theorem dX5_readParts_33 : decode cX5_readParts 33 = .ok (.getfield 12, 3) := by decide +kernel
theorem dX5_readParts_36 : decode cX5_readParts 36 = .ok (.bipush 124, 2) := by decide +kernel
theorem dX5_readParts_38 : decode cX5_readParts 38 = .ok (.iconst 0, 1) := by decide +kernel
theorem dX5_readParts_39 : decode cX5_readParts 39 = .ok (.invokevirtual 109, 3) := by decide +kernel
theorem dX5_readParts_42 : decode cX5_readParts 42 = .ok (.istore_n 3, 1) := by decide +kernel
theorem dX5_readParts_43 : decode cX5_readParts 43 = .ok (.aload_n 0, 1) := by decide +kernel
theorem dX5_readParts_44 : decode cX5_readParts 44 = .ok (.invokevirtual 106, 3) := by decide +kernel
theorem dX5_readParts_47 : decode cX5_readParts 47 = .ok (.istore_n 1, 1) := by decide +kernel
theorem dX5_readParts_48 : decode cX5_readParts 48 = .ok (.aload_n 0, 1) := by decide +kernel
theorem dX5_readParts_49 : decode cX5_readParts 49 = .ok (.getfield 12, 3) := by decide +kernel
theorem dX5_readParts_52 : decode cX5_readParts 52 = .ok (.iload_n 3, 1) := by decide +kernel
theorem dX5_readParts_53 : decode cX5_readParts 53 = .ok (.invokevirtual 113, 3) := by decide +kernel
theorem dX5_readParts_56 : decode cX5_readParts 56 = .ok (.iinc 2 1, 3) := by decide +kernel
theorem dX5_readParts_59 : decode cX5_readParts 59 = .ok (.goto (-52), 3) := by decide +kernel
theorem dX5_readParts_62 : decode cX5_readParts 62 = .ok (.iload_n 1, 1) := by decide +kernel
theorem dX5_readParts_63 : decode cX5_readParts 63 = .ok (.ireturn, 1) := by decide +kernel
theorem dX5_readPieces_0 : decode cX5_readPieces 0 = .ok (.aload_n 0, 1) := by decide +kernel
theorem dX5_readPieces_1 : decode cX5_readPieces 1 = .ok (.invokevirtual 116, 3) := by decide +kernel
theorem dX5_readPieces_4 : decode cX5_readPieces 4 = .ok (.istore_n 1, 1) := by decide +kernel
theorem dX5_readPieces_5 : decode cX5_readPieces 5 = .ok (.iconst 0, 1) := by decide +kernel
theorem dX5_readPieces_6 : decode cX5_readPieces 6 = .ok (.istore_n 2, 1) := by decide +kernel
theorem dX5_readPieces_7 : decode cX5_readPieces 7 = .ok (.iload_n 1, 1) := by decide +kernel
theorem dX5_readPieces_8 : decode cX5_readPieces 8 = .ok (.ifCond .eq 54, 3) := by decide +kernel
theorem dX5_readPieces_11 : decode cX5_readPieces 11 = .ok (.aload_n 0, 1) := by decide +kernel
theorem dX5_readPieces_12 : decode cX5_readPieces 12 = .ok (.getfield 30, 3) := by decide +kernel
theorem dX5_readPieces_15 : decode cX5_readPieces 15 = .ok (.bipush 38, 2) := by decide +kernel
theorem dX5_readPieces_17 : decode cX5_readPieces 17 = .ok (.if_icmp .ne 45, 3) := by decide +kernel
theorem dX5_readPieces_20 : decode cX5_readPieces 20 = .ok (.iload_n 2, 1) := by decide +kernel
theorem dX5_readPieces_21 : decode cX5_readPieces 21 = .ok (.aload_n 0, 1) := by decide +kernel
theorem dX5_readPieces_22 : decode cX5_readPieces 22 = .ok (.getfield 56, 3) := by decide +kernel
theorem dX5_readPieces_25 : decode cX5_readPieces 25 = .ok (.if_icmp .ge 37, 3) := by decide +kernel
theorem dX5_readPieces_28 : decode cX5_readPieces 28 = .ok (.aload_n 0, 1) := by decide +kernel
theorem dX5_readPieces_29 : decode cX5_readPieces 29 = .ok (.invokevirtual 68, 3) := by decide +kernel
theorem dX5_readPieces_32 : decode cX5_readPieces 32 = .ok (.aload_n 0, 1) := by decide +kernel
theorem dX5_readPieces_33 : decode cX5_readPieces 33 = .ok (.getfield 12, 3) := by decide +kernel
theorem dX5_readPieces_36 : decode cX5_readPieces 36 = .ok (.bipush 38, 2) := by decide +kernel
theorem dX5_readPieces_38 : decode cX5_readPieces 38 = .ok (.iconst 0, 1) := by decide +kernel
theorem dX5_readPieces_39 : decode cX5_readPieces 39 = .ok (.invokevirtual 109, 3) := by decide +kernel
theorem dX5_readPieces_42 : decode cX5_readPieces 42 = .ok (.istore_n 3, 1) := by decide +kernel
theorem dX5_readPieces_43 : decode cX5_readPieces 43 = .ok (.aload_n 0, 1) := by decide +kernel
theorem dX5_readPieces_44 : decode cX5_readPieces 44 = .ok (.invokevirtual 116, 3) := by decide +kernel
theorem dX5_readPieces_47 : decode cX5_readPieces 47 = .ok (.istore_n 1, 1) := by decide +kernel
theorem dX5_readPieces_48 : decode cX5_readPieces 48 = .ok (.aload_n 0, 1) := by decide +kernel
theorem dX5_readPieces_49 : decode cX5_readPieces 49 = .ok (.getfield 12, 3) := by decide +kernel
theorem dX5_readPieces_52 : decode cX5_readPieces 52 = .ok (.iload_n 3, 1) := by decide +kernel
theorem dX5_readPieces_53 : decode cX5_readPieces 53 = .ok (.invokevirtual 113, 3) := by decide +kernel
theorem dX5_readPieces_56 : decode cX5_readPieces 56 = .ok (.iinc 2 1, 3) := by decide +kernel
theorem dX5_readPieces_59 : decode cX5_readPieces 59 = .ok (.goto (-52), 3) := by decide +kernel
theorem dX5_readPieces_62 : decode cX5_readPieces 62 = .ok (.iload_n 1, 1) := by decide +kernel
theorem dX5_readPieces_63 : decode cX5_readPieces 63 = .ok (.ireturn, 1) := by decide +kernel
theorem dX5_readPiece_0 : decode cX5_readPiece 0 = .ok (.aload_n 0, 1) := by decide +kernel
theorem dX5_readPiece_1 : decode cX5_readPiece 1 = .ok (.getfield 30, 3) := by decide +kernel
theorem dX5_readPiece_4 : decode cX5_readPiece 4 = .ok (.bipush 40, 2) := by decide +kernel
theorem dX5_readPiece_6 : decode cX5_readPiece 6 = .ok (.if_icmp .ne 44, 3) := by decide +kernel
theorem dX5_readPiece_9 : decode cX5_readPiece 9 = .ok (.aload_n 0, 1) := by decide +kernel
theorem dX5_readPiece_10 : decode cX5_readPiece 10 = .ok (.invokevirtual 97, 3) := by decide +kernel
theorem dX5_readPiece_13 : decode cX5_readPiece 13 = .ok (.ifCond .eq 23, 3) := by decide +kernel
theorem dX5_readPiece_16 : decode cX5_readPiece 16 = .ok (.aload_n 0, 1) := by decide +kernel
theorem dX5_readPiece_17 : decode cX5_readPiece 17 = .ok (.invokevirtual 100, 3) := by decide +kernel
theorem dX5_readPiece_20 : decode cX5_readPiece 20 = .ok (.ifCond .eq 16, 3) := by decide +kernel
theorem dX5_readPiece_23 : decode cX5_readPiece 23 = .ok (.aload_n 0, 1) := by decide +kernel
theorem dX5_readPiece_24 : decode cX5_readPiece 24 = .ok (.bipush 41, 2) := by decide +kernel
theorem dX5_readPiece_26 : decode cX5_readPiece 26 = .ok (.invokevirtual 34, 3) := by decide +kernel
theorem dX5_readPiece_29 : decode cX5_readPiece 29 = .ok (.ifCond .eq 7, 3) := by decide +kernel
theorem dX5_readPiece_32 : decode cX5_readPiece 32 = .ok (.iconst 1, 1) := by decide +kernel
theorem dX5_readPiece_33 : decode cX5_readPiece 33 = .ok (.goto 4, 3) := by decide +kernel
theorem dX5_readPiece_36 : decode cX5_readPiece 36 = .ok (.iconst 0, 1) := by decide +kernel
theorem dX5_readPiece_37 : decode cX5_readPiece 37 = .ok (.istore_n 1, 1) := by decide +kernel
theorem dX5_readPiece_38 : decode cX5_readPiece 38 = .ok (.aload_n 0, 1) := by decide +kernel
theorem dX5_readPiece_39 : decode cX5_readPiece 39 = .ok (.dup, 1) := by decide +kernel
theorem dX5_readPiece_40 : decode cX5_readPiece 40 = .ok (.getfield 59, 3) := by decide +kernel
theorem dX5_readPiece_43 : decode cX5_readPiece 43 = .ok (.iconst 1, 1) := by decide +kernel
theorem dX5_readPiece_44 : decode cX5_readPiece 44 = .ok (.isub, 1) := by decide +kernel
theorem dX5_readPiece_45 : decode cX5_readPiece 45 = .ok (.putfield 59, 3) := by decide +kernel
theorem dX5_readPiece_48 : decode cX5_readPiece 48 = .ok (.iload_n 1, 1) := by decide +kernel
theorem dX5_readPiece_49 : decode cX5_readPiece 49 = .ok (.ireturn, 1) := by decide +kernel
theorem dX5_readPiece_50 : decode cX5_readPiece 50 = .ok (.aload_n 0, 1) := by decide +kernel
theorem dX5_readPiece_51 : decode cX5_readPiece 51 = .ok (.getfield 30, 3) := by decide +kernel
theorem dX5_readPiece_54 : decode cX5_readPiece 54 = .ok (.bipush 33, 2) := by decide +kernel
theorem dX5_readPiece_56 : decode cX5_readPiece 56 = .ok (.if_icmp .ne 46, 3) := by decide +kernel
theorem dX5_readPiece_59 : decode cX5_readPiece 59 = .ok (.aload_n 0, 1) := by decide +kernel
theorem dX5_readPiece_60 : decode cX5_readPiece 60 = .ok (.invokevirtual 97, 3) := by decide +kernel
theorem dX5_readPiece_63 : decode cX5_readPiece 63 = .ok (.ifCond .eq 14, 3) := by decide +kernel
theorem dX5_readPiece_66 : decode cX5_readPiece 66 = .ok (.aload_n 0, 1) := by decide +kernel
theorem dX5_readPiece_67 : decode cX5_readPiece 67 = .ok (.invokevirtual 116, 3) := by decide +kernel
theorem dX5_readPiece_70 : decode cX5_readPiece 70 = .ok (.ifCond .eq 7, 3) := by decide +kernel
theorem dX5_readPiece_73 : decode cX5_readPiece 73 = .ok (.iconst 1, 1) := by decide +kernel
theorem dX5_readPiece_74 : decode cX5_readPiece 74 = .ok (.goto 4, 3) := by decide +kernel
theorem dX5_readPiece_77 : decode cX5_readPiece 77 = .ok (.iconst 0, 1) := by decide +kernel
theorem dX5_readPiece_78 : decode cX5_readPiece 78 = .ok (.istore_n 1, 1) := by decide +kernel
theorem dX5_readPiece_79 : decode cX5_readPiece 79 = .ok (.aload_n 0, 1) := by decide +kernel
theorem dX5_readPiece_80 : decode cX5_readPiece 80 = .ok (.dup, 1) := by decide +kernel
theorem dX5_readPiece_81 : decode cX5_readPiece 81 = .ok (.getfield 59, 3) := by decide +kernel
theorem dX5_readPiece_84 : decode cX5_readPiece 84 = .ok (.iconst 1, 1) := by decide +kernel
theorem dX5_readPiece_85 : decode cX5_readPiece 85 = .ok (.isub, 1) := by decide +kernel
theorem dX5_readPiece_86 : decode cX5_readPiece 86 = .ok (.putfield 59, 3) := by decide +kernel
theorem dX5_readPiece_89 : decode cX5_readPiece 89 = .ok (.aload_n 0, 1) := by decide +kernel
theorem dX5_readPiece_90 : decode cX5_readPiece 90 = .ok (.getfield 12, 3) := by decide +kernel
theorem dX5_readPiece_93 : decode cX5_readPiece 93 = .ok (.bipush 33, 2) := by decide +kernel
theorem dX5_readPiece_95 : decode cX5_readPiece 95 = .ok (.iconst 0, 1) := by decide +kernel
theorem dX5_readPiece_96 : decode cX5_readPiece 96 = .ok (.invokevirtual 109, 3) := by decide +kernel
theorem dX5_readPiece_99 : decode cX5_readPiece 99 = .ok (.pop, 1) := by decide +kernel
theorem dX5_readPiece_100 : decode cX5_readPiece 100 = .ok (.iload_n 1, 1) := by decide +kernel
theorem dX5_readPiece_101 : decode cX5_readPiece 101 = .ok (.ireturn, 1) := by decide +kernel
theorem dX5_readPiece_102 : decode cX5_readPiece 102 = .ok (.aload_n 0, 1) := by decide +kernel
theorem dX5_readPiece_103 : decode cX5_readPiece 103 = .ok (.invokevirtual 48, 3) := by decide +kernel
theorem dX5_readPiece_106 : decode cX5_readPiece 106 = .ok (.ifCond .ne 5, 3) := by decide +kernel
theorem dX5_readPiece_109 : decode cX5_readPiece 109 = .ok (.iconst 0, 1) := by decide +kernel
theorem dX5_readPiece_110 : decode cX5_readPiece 110 = .ok (.ireturn, 1) := by decide +kernel
theorem dX5_readPiece_111 : decode cX5_readPiece 111 = .ok (.aload_n 0, 1) := by decide +kernel
theorem dX5_readPiece_112 : decode cX5_readPiece 112 = .ok (.ldc 119, 2) := by decide +kernel
theorem dX5_readPiece_114 : decode cX5_readPiece 114 = .ok (.invokevirtual 82, 3) := by decide +kernel
theorem dX5_readPiece_117 : decode cX5_readPiece 117 = .ok (.ifCond .ne 9, 3) := by decide +kernel
theorem dX5_readPiece_120 : decode cX5_readPiece 120 = .ok (.aload_n 0, 1) := by decide +kernel
theorem dX5_readPiece_121 : decode cX5_readPiece 121 = .ok (.iconst 1, 1) := by decide +kernel
theorem dX5_readPiece_122 : decode cX5_readPiece 122 = .ok (.invokevirtual 52, 3) := by decide +kernel
theorem dX5_readPiece_125 : decode cX5_readPiece 125 = .ok (.ireturn, 1) := by decide +kernel
theorem dX5_readPiece_126 : decode cX5_readPiece 126 = .ok (.aload_n 0, 1) := by decide +kernel
theorem dX5_readPiece_127 : decode cX5_readPiece 127 = .ok (.getfield 30, 3) := by decide +kernel
theorem dX5_readPiece_130 : decode cX5_readPiece 130 = .ok (.istore_n 1, 1) := by decide +kernel
theorem dX5_readPiece_131 : decode cX5_readPiece 131 = .ok (.aload_n 0, 1) := by decide +kernel
theorem dX5_readPiece_132 : decode cX5_readPiece 132 = .ok (.invokevirtual 68, 3) := by decide +kernel
theorem dX5_readPiece_135 : decode cX5_readPiece 135 = .ok (.aload_n 0, 1) := by decide +kernel
theorem dX5_readPiece_136 : decode cX5_readPiece 136 = .ok (.invokevirtual 48, 3) := by decide +kernel
theorem dX5_readPiece_139 : decode cX5_readPiece 139 = .ok (.istore_n 2, 1) := by decide +kernel
theorem dX5_readPiece_140 : decode cX5_readPiece 140 = .ok (.aload_n 0, 1) := by decide +kernel
theorem dX5_readPiece_141 : decode cX5_readPiece 141 = .ok (.getfield 12, 3) := by decide +kernel
theorem dX5_readPiece_144 : decode cX5_readPiece 144 = .ok (.iload_n 1, 1) := by decide +kernel
theorem dX5_readPiece_145 : decode cX5_readPiece 145 = .ok (.iconst 0, 1) := by decide +kernel
theorem dX5_readPiece_146 : decode cX5_readPiece 146 = .ok (.invokevirtual 109, 3) := by decide +kernel
theorem dX5_readPiece_149 : decode cX5_readPiece 149 = .ok (.pop, 1) := by decide +kernel
theorem dX5_readPiece_150 : decode cX5_readPiece 150 = .ok (.iload_n 2, 1) := by decide +kernel
theorem dX5_readPiece_151 : decode cX5_readPiece 151 = .ok (.ireturn, 1) := by decide +kernel
theorem dX5_readTerms_0 : decode cX5_readTerms 0 = .ok (.aload_n 0, 1) := by decide +kernel
theorem dX5_readTerms_1 : decode cX5_readTerms 1 = .ok (.invokevirtual 121, 3) := by decide +kernel
theorem dX5_readTerms_4 : decode cX5_readTerms 4 = .ok (.istore_n 1, 1) := by decide +kernel
theorem dX5_readTerms_5 : decode cX5_readTerms 5 = .ok (.iconst 0, 1) := by decide +kernel
theorem dX5_readTerms_6 : decode cX5_readTerms 6 = .ok (.istore_n 2, 1) := by decide +kernel
theorem dX5_readTerms_7 : decode cX5_readTerms 7 = .ok (.iload_n 1, 1) := by decide +kernel
theorem dX5_readTerms_8 : decode cX5_readTerms 8 = .ok (.ifCond .eq 50, 3) := by decide +kernel
theorem dX5_readTerms_11 : decode cX5_readTerms 11 = .ok (.aload_n 0, 1) := by decide +kernel
theorem dX5_readTerms_12 : decode cX5_readTerms 12 = .ok (.ldc 124, 2) := by decide +kernel
theorem dX5_readTerms_14 : decode cX5_readTerms 14 = .ok (.invokevirtual 82, 3) := by decide +kernel
theorem dX5_readTerms_17 : decode cX5_readTerms 17 = .ok (.ifCond .eq 41, 3) := by decide +kernel
theorem dX5_readTerms_20 : decode cX5_readTerms 20 = .ok (.iload_n 2, 1) := by decide +kernel
theorem dX5_readTerms_21 : decode cX5_readTerms 21 = .ok (.aload_n 0, 1) := by decide +kernel
theorem dX5_readTerms_22 : decode cX5_readTerms 22 = .ok (.getfield 56, 3) := by decide +kernel
theorem dX5_readTerms_25 : decode cX5_readTerms 25 = .ok (.if_icmp .ge 33, 3) := by decide +kernel
theorem dX5_readTerms_28 : decode cX5_readTerms 28 = .ok (.aload_n 0, 1) := by decide +kernel
theorem dX5_readTerms_29 : decode cX5_readTerms 29 = .ok (.getfield 30, 3) := by decide +kernel
theorem dX5_readTerms_32 : decode cX5_readTerms 32 = .ok (.istore_n 3, 1) := by decide +kernel
theorem dX5_readTerms_33 : decode cX5_readTerms 33 = .ok (.aload_n 0, 1) := by decide +kernel
theorem dX5_readTerms_34 : decode cX5_readTerms 34 = .ok (.invokevirtual 68, 3) := by decide +kernel
theorem dX5_readTerms_37 : decode cX5_readTerms 37 = .ok (.aload_n 0, 1) := by decide +kernel
theorem dX5_readTerms_38 : decode cX5_readTerms 38 = .ok (.invokevirtual 121, 3) := by decide +kernel
theorem dX5_readTerms_41 : decode cX5_readTerms 41 = .ok (.istore_n 1, 1) := by decide +kernel
theorem dX5_readTerms_42 : decode cX5_readTerms 42 = .ok (.aload_n 0, 1) := by decide +kernel
theorem dX5_readTerms_43 : decode cX5_readTerms 43 = .ok (.getfield 12, 3) := by decide +kernel
theorem dX5_readTerms_46 : decode cX5_readTerms 46 = .ok (.iload_n 3, 1) := by decide +kernel
theorem dX5_readTerms_47 : decode cX5_readTerms 47 = .ok (.iconst 0, 1) := by decide +kernel
theorem dX5_readTerms_48 : decode cX5_readTerms 48 = .ok (.invokevirtual 109, 3) := by decide +kernel
theorem dX5_readTerms_51 : decode cX5_readTerms 51 = .ok (.pop, 1) := by decide +kernel
theorem dX5_readTerms_52 : decode cX5_readTerms 52 = .ok (.iinc 2 1, 3) := by decide +kernel
theorem dX5_readTerms_55 : decode cX5_readTerms 55 = .ok (.goto (-48), 3) := by decide +kernel
theorem dX5_readTerms_58 : decode cX5_readTerms 58 = .ok (.iload_n 1, 1) := by decide +kernel
theorem dX5_readTerms_59 : decode cX5_readTerms 59 = .ok (.ireturn, 1) := by decide +kernel
theorem dX5_readFactors_0 : decode cX5_readFactors 0 = .ok (.aload_n 0, 1) := by decide +kernel
theorem dX5_readFactors_1 : decode cX5_readFactors 1 = .ok (.invokevirtual 126, 3) := by decide +kernel
theorem dX5_readFactors_4 : decode cX5_readFactors 4 = .ok (.istore_n 1, 1) := by decide +kernel
theorem dX5_readFactors_5 : decode cX5_readFactors 5 = .ok (.iconst 0, 1) := by decide +kernel
theorem dX5_readFactors_6 : decode cX5_readFactors 6 = .ok (.istore_n 2, 1) := by decide +kernel
theorem dX5_readFactors_7 : decode cX5_readFactors 7 = .ok (.iload_n 1, 1) := by decide +kernel
theorem dX5_readFactors_8 : decode cX5_readFactors 8 = .ok (.ifCond .eq 50, 3) := by decide +kernel
theorem dX5_readFactors_11 : decode cX5_readFactors 11 = .ok (.aload_n 0, 1) := by decide +kernel
theorem dX5_readFactors_12 : decode cX5_readFactors 12 = .ok (.ldc 129, 2) := by decide +kernel
theorem dX5_readFactors_14 : decode cX5_readFactors 14 = .ok (.invokevirtual 82, 3) := by decide +kernel
theorem dX5_readFactors_17 : decode cX5_readFactors 17 = .ok (.ifCond .eq 41, 3) := by decide +kernel
theorem dX5_readFactors_20 : decode cX5_readFactors 20 = .ok (.iload_n 2, 1) := by decide +kernel
theorem dX5_readFactors_21 : decode cX5_readFactors 21 = .ok (.aload_n 0, 1) := by decide +kernel
theorem dX5_readFactors_22 : decode cX5_readFactors 22 = .ok (.getfield 56, 3) := by decide +kernel
theorem dX5_readFactors_25 : decode cX5_readFactors 25 = .ok (.if_icmp .ge 33, 3) := by decide +kernel
theorem dX5_readFactors_28 : decode cX5_readFactors 28 = .ok (.aload_n 0, 1) := by decide +kernel
theorem dX5_readFactors_29 : decode cX5_readFactors 29 = .ok (.getfield 30, 3) := by decide +kernel
theorem dX5_readFactors_32 : decode cX5_readFactors 32 = .ok (.istore_n 3, 1) := by decide +kernel
theorem dX5_readFactors_33 : decode cX5_readFactors 33 = .ok (.aload_n 0, 1) := by decide +kernel
theorem dX5_readFactors_34 : decode cX5_readFactors 34 = .ok (.invokevirtual 68, 3) := by decide +kernel
theorem dX5_readFactors_37 : decode cX5_readFactors 37 = .ok (.aload_n 0, 1) := by decide +kernel
theorem dX5_readFactors_38 : decode cX5_readFactors 38 = .ok (.invokevirtual 126, 3) := by decide +kernel
theorem dX5_readFactors_41 : decode cX5_readFactors 41 = .ok (.istore_n 1, 1) := by decide +kernel
theorem dX5_readFactors_42 : decode cX5_readFactors 42 = .ok (.aload_n 0, 1) := by decide +kernel
theorem dX5_readFactors_43 : decode cX5_readFactors 43 = .ok (.getfield 12, 3) := by decide +kernel
theorem dX5_readFactors_46 : decode cX5_readFactors 46 = .ok (.iload_n 3, 1) := by decide +kernel
theorem dX5_readFactors_47 : decode cX5_readFactors 47 = .ok (.iconst 0, 1) := by decide +kernel
theorem dX5_readFactors_48 : decode cX5_readFactors 48 = .ok (.invokevirtual 109, 3) := by decide +kernel
theorem dX5_readFactors_51 : decode cX5_readFactors 51 = .ok (.pop, 1) := by decide +kernel
theorem dX5_readFactors_52 : decode cX5_readFactors 52 = .ok (.iinc 2 1, 3) := by decide +kernel
theorem dX5_readFactors_55 : decode cX5_readFactors 55 = .ok (.goto (-48), 3) := by decide +kernel
theorem dX5_readFactors_58 : decode cX5_readFactors 58 = .ok (.iload_n 1, 1) := by decide +kernel
theorem dX5_readFactors_59 : decode cX5_readFactors 59 = .ok (.ireturn, 1) := by decide +kernel
theorem dX5_readFactor_0 : decode cX5_readFactor 0 = .ok (.aload_n 0, 1) := by decide +kernel
theorem dX5_readFactor_1 : decode cX5_readFactor 1 = .ok (.getfield 30, 3) := by decide +kernel
theorem dX5_readFactor_4 : decode cX5_readFactor 4 = .ok (.bipush 91, 2) := by decide +kernel
theorem dX5_readFactor_6 : decode cX5_readFactor 6 = .ok (.if_icmp .ne 44, 3) := by decide +kernel
theorem dX5_readFactor_9 : decode cX5_readFactor 9 = .ok (.aload_n 0, 1) := by decide +kernel
theorem dX5_readFactor_10 : decode cX5_readFactor 10 = .ok (.invokevirtual 97, 3) := by decide +kernel
theorem dX5_readFactor_13 : decode cX5_readFactor 13 = .ok (.ifCond .eq 23, 3) := by decide +kernel
theorem dX5_readFactor_16 : decode cX5_readFactor 16 = .ok (.aload_n 0, 1) := by decide +kernel
theorem dX5_readFactor_17 : decode cX5_readFactor 17 = .ok (.invokevirtual 48, 3) := by decide +kernel
theorem dX5_readFactor_20 : decode cX5_readFactor 20 = .ok (.ifCond .eq 16, 3) := by decide +kernel
theorem dX5_readFactor_23 : decode cX5_readFactor 23 = .ok (.aload_n 0, 1) := by decide +kernel
theorem dX5_readFactor_24 : decode cX5_readFactor 24 = .ok (.bipush 93, 2) := by decide +kernel
theorem dX5_readFactor_26 : decode cX5_readFactor 26 = .ok (.invokevirtual 34, 3) := by decide +kernel
theorem dX5_readFactor_29 : decode cX5_readFactor 29 = .ok (.ifCond .eq 7, 3) := by decide +kernel
theorem dX5_readFactor_32 : decode cX5_readFactor 32 = .ok (.iconst 1, 1) := by decide +kernel
theorem dX5_readFactor_33 : decode cX5_readFactor 33 = .ok (.goto 4, 3) := by decide +kernel
theorem dX5_readFactor_36 : decode cX5_readFactor 36 = .ok (.iconst 0, 1) := by decide +kernel
theorem dX5_readFactor_37 : decode cX5_readFactor 37 = .ok (.istore_n 1, 1) := by decide +kernel
theorem dX5_readFactor_38 : decode cX5_readFactor 38 = .ok (.aload_n 0, 1) := by decide +kernel
theorem dX5_readFactor_39 : decode cX5_readFactor 39 = .ok (.dup, 1) := by decide +kernel
theorem dX5_readFactor_40 : decode cX5_readFactor 40 = .ok (.getfield 59, 3) := by decide +kernel
theorem dX5_readFactor_43 : decode cX5_readFactor 43 = .ok (.iconst 1, 1) := by decide +kernel
theorem dX5_readFactor_44 : decode cX5_readFactor 44 = .ok (.isub, 1) := by decide +kernel
theorem dX5_readFactor_45 : decode cX5_readFactor 45 = .ok (.putfield 59, 3) := by decide +kernel
theorem dX5_readFactor_48 : decode cX5_readFactor 48 = .ok (.iload_n 1, 1) := by decide +kernel
theorem dX5_readFactor_49 : decode cX5_readFactor 49 = .ok (.ireturn, 1) := by decide +kernel
theorem dX5_readFactor_50 : decode cX5_readFactor 50 = .ok (.aload_n 0, 1) := by decide +kernel
theorem dX5_readFactor_51 : decode cX5_readFactor 51 = .ok (.invokevirtual 131, 3) := by decide +kernel
theorem dX5_readFactor_54 : decode cX5_readFactor 54 = .ok (.ifCond .eq 8, 3) := by decide +kernel
theorem dX5_readFactor_57 : decode cX5_readFactor 57 = .ok (.aload_n 0, 1) := by decide +kernel
theorem dX5_readFactor_58 : decode cX5_readFactor 58 = .ok (.invokevirtual 134, 3) := by decide +kernel
theorem dX5_readFactor_61 : decode cX5_readFactor 61 = .ok (.ireturn, 1) := by decide +kernel
theorem dX5_readFactor_62 : decode cX5_readFactor 62 = .ok (.aload_n 0, 1) := by decide +kernel
theorem dX5_readFactor_63 : decode cX5_readFactor 63 = .ok (.ldc 139, 2) := by decide +kernel
theorem dX5_readFactor_65 : decode cX5_readFactor 65 = .ok (.invokevirtual 82, 3) := by decide +kernel
theorem dX5_readFactor_68 : decode cX5_readFactor 68 = .ok (.ifCond .ne 9, 3) := by decide +kernel
theorem dX5_readFactor_71 : decode cX5_readFactor 71 = .ok (.aload_n 0, 1) := by decide +kernel
theorem dX5_readFactor_72 : decode cX5_readFactor 72 = .ok (.iconst 1, 1) := by decide +kernel
theorem dX5_readFactor_73 : decode cX5_readFactor 73 = .ok (.invokevirtual 52, 3) := by decide +kernel
theorem dX5_readFactor_76 : decode cX5_readFactor 76 = .ok (.ireturn, 1) := by decide +kernel
theorem dX5_readFactor_77 : decode cX5_readFactor 77 = .ok (.aload_n 0, 1) := by decide +kernel
theorem dX5_readFactor_78 : decode cX5_readFactor 78 = .ok (.getfield 12, 3) := by decide +kernel
theorem dX5_readFactor_81 : decode cX5_readFactor 81 = .ok (.bipush 97, 2) := by decide +kernel
theorem dX5_readFactor_83 : decode cX5_readFactor 83 = .ok (.ldc 139, 2) := by decide +kernel
theorem dX5_readFactor_85 : decode cX5_readFactor 85 = .ok (.aload_n 0, 1) := by decide +kernel
theorem dX5_readFactor_86 : decode cX5_readFactor 86 = .ok (.getfield 30, 3) := by decide +kernel
theorem dX5_readFactor_89 : decode cX5_readFactor 89 = .ok (.i2c, 1) := by decide +kernel
theorem dX5_readFactor_90 : decode cX5_readFactor 90 = .ok (.invokevirtual 77, 3) := by decide +kernel
theorem dX5_readFactor_93 : decode cX5_readFactor 93 = .ok (.invokevirtual 109, 3) := by decide +kernel
theorem dX5_readFactor_96 : decode cX5_readFactor 96 = .ok (.pop, 1) := by decide +kernel
theorem dX5_readFactor_97 : decode cX5_readFactor 97 = .ok (.aload_n 0, 1) := by decide +kernel
theorem dX5_readFactor_98 : decode cX5_readFactor 98 = .ok (.invokevirtual 68, 3) := by decide +kernel
theorem dX5_readFactor_101 : decode cX5_readFactor 101 = .ok (.iconst 1, 1) := by decide +kernel
theorem dX5_readFactor_102 : decode cX5_readFactor 102 = .ok (.ireturn, 1) := by decide +kernel
theorem dX5_readNumber_0 : decode cX5_readNumber 0 = .ok (.iconst 0, 1) := by decide +kernel
theorem dX5_readNumber_1 : decode cX5_readNumber 1 = .ok (.istore_n 1, 1) := by decide +kernel
theorem dX5_readNumber_2 : decode cX5_readNumber 2 = .ok (.iconst 0, 1) := by decide +kernel
theorem dX5_readNumber_3 : decode cX5_readNumber 3 = .ok (.istore_n 2, 1) := by decide +kernel
theorem dX5_readNumber_4 : decode cX5_readNumber 4 = .ok (.iload_n 2, 1) := by decide +kernel
theorem dX5_readNumber_5 : decode cX5_readNumber 5 = .ok (.iconst 5, 1) := by decide +kernel
theorem dX5_readNumber_6 : decode cX5_readNumber 6 = .ok (.if_icmp .ge 33, 3) := by decide +kernel
theorem dX5_readNumber_9 : decode cX5_readNumber 9 = .ok (.aload_n 0, 1) := by decide +kernel
theorem dX5_readNumber_10 : decode cX5_readNumber 10 = .ok (.invokevirtual 131, 3) := by decide +kernel
theorem dX5_readNumber_13 : decode cX5_readNumber 13 = .ok (.ifCond .eq 26, 3) := by decide +kernel
theorem dX5_readNumber_16 : decode cX5_readNumber 16 = .ok (.bipush 10, 2) := by decide +kernel
theorem dX5_readNumber_18 : decode cX5_readNumber 18 = .ok (.iload_n 1, 1) := by decide +kernel
theorem dX5_readNumber_19 : decode cX5_readNumber 19 = .ok (.imul, 1) := by decide +kernel
theorem dX5_readNumber_20 : decode cX5_readNumber 20 = .ok (.aload_n 0, 1) := by decide +kernel
theorem dX5_readNumber_21 : decode cX5_readNumber 21 = .ok (.getfield 30, 3) := by decide +kernel
theorem dX5_readNumber_24 : decode cX5_readNumber 24 = .ok (.iadd, 1) := by decide +kernel
theorem dX5_readNumber_25 : decode cX5_readNumber 25 = .ok (.bipush 48, 2) := by decide +kernel
theorem dX5_readNumber_27 : decode cX5_readNumber 27 = .ok (.isub, 1) := by decide +kernel
theorem dX5_readNumber_28 : decode cX5_readNumber 28 = .ok (.istore_n 1, 1) := by decide +kernel
theorem dX5_readNumber_29 : decode cX5_readNumber 29 = .ok (.aload_n 0, 1) := by decide +kernel
theorem dX5_readNumber_30 : decode cX5_readNumber 30 = .ok (.invokevirtual 68, 3) := by decide +kernel
theorem dX5_readNumber_33 : decode cX5_readNumber 33 = .ok (.iinc 2 1, 3) := by decide +kernel
theorem dX5_readNumber_36 : decode cX5_readNumber 36 = .ok (.goto (-32), 3) := by decide +kernel
theorem dX5_readNumber_39 : decode cX5_readNumber 39 = .ok (.aload_n 0, 1) := by decide +kernel
theorem dX5_readNumber_40 : decode cX5_readNumber 40 = .ok (.invokevirtual 131, 3) := by decide +kernel
theorem dX5_readNumber_43 : decode cX5_readNumber 43 = .ok (.ifCond .eq 9, 3) := by decide +kernel
theorem dX5_readNumber_46 : decode cX5_readNumber 46 = .ok (.aload_n 0, 1) := by decide +kernel
theorem dX5_readNumber_47 : decode cX5_readNumber 47 = .ok (.iconst 2, 1) := by decide +kernel
theorem dX5_readNumber_48 : decode cX5_readNumber 48 = .ok (.invokevirtual 52, 3) := by decide +kernel
theorem dX5_readNumber_51 : decode cX5_readNumber 51 = .ok (.ireturn, 1) := by decide +kernel
theorem dX5_readNumber_52 : decode cX5_readNumber 52 = .ok (.aload_n 0, 1) := by decide +kernel
theorem dX5_readNumber_53 : decode cX5_readNumber 53 = .ok (.getfield 12, 3) := by decide +kernel
theorem dX5_readNumber_56 : decode cX5_readNumber 56 = .ok (.bipush 48, 2) := by decide +kernel
theorem dX5_readNumber_58 : decode cX5_readNumber 58 = .ok (.iload_n 1, 1) := by decide +kernel
theorem dX5_readNumber_59 : decode cX5_readNumber 59 = .ok (.invokevirtual 109, 3) := by decide +kernel
theorem dX5_readNumber_62 : decode cX5_readNumber 62 = .ok (.pop, 1) := by decide +kernel
theorem dX5_readNumber_63 : decode cX5_readNumber 63 = .ok (.iconst 1, 1) := by decide +kernel
theorem dX5_readNumber_64 : decode cX5_readNumber 64 = .ok (.ireturn, 1) := by decide +kernel
