theorem dX12_goesOn_34 : decode cX12_goesOn 34 = .ok (.aload_n 0, 1) := by decide +kernel
theorem dX12_goesOn_35 : decode cX12_goesOn 35 = .ok (.getfield 55, 3) := by decide +kernel
theorem dX12_goesOn_38 : decode cX12_goesOn 38 = .ok (.iload_n 1, 1) := by decide +kernel
theorem dX12_goesOn_39 : decode cX12_goesOn 39 = .ok (.aload_n 0, 1) := by decide +kernel
theorem dX12_goesOn_40 : decode cX12_goesOn 40 = .ok (.getfield 183, 3) := by decide +kernel
theorem dX12_goesOn_43 : decode cX12_goesOn 43 = .ok (.iastore, 1) := by decide +kernel
theorem dX12_goesOn_44 : decode cX12_goesOn 44 = .ok (.return_, 1) := by decide +kernel
theorem dX12_passes_0 : decode cX12_passes 0 = .ok (.aload_n 0, 1) := by decide +kernel
theorem dX12_passes_1 : decode cX12_passes 1 = .ok (.iconst 0, 1) := by decide +kernel
theorem dX12_passes_2 : decode cX12_passes 2 = .ok (.putfield 334, 3) := by decide +kernel
theorem dX12_passes_5 : decode cX12_passes 5 = .ok (.aload_n 0, 1) := by decide +kernel
theorem dX12_passes_6 : decode cX12_passes 6 = .ok (.iconst 0, 1) := by decide +kernel
theorem dX12_passes_7 : decode cX12_passes 7 = .ok (.putfield 337, 3) := by decide +kernel
theorem dX12_passes_10 : decode cX12_passes 10 = .ok (.iconst 0, 1) := by decide +kernel
theorem dX12_passes_11 : decode cX12_passes 11 = .ok (.istore_n 1, 1) := by decide +kernel
theorem dX12_passes_12 : decode cX12_passes 12 = .ok (.iload_n 1, 1) := by decide +kernel
theorem dX12_passes_13 : decode cX12_passes 13 = .ok (.aload_n 0, 1) := by decide +kernel
theorem dX12_passes_14 : decode cX12_passes 14 = .ok (.getfield 171, 3) := by decide +kernel
theorem dX12_passes_17 : decode cX12_passes 17 = .ok (.if_icmp .ge 170, 3) := by decide +kernel
theorem dX12_passes_20 : decode cX12_passes 20 = .ok (.aload_n 0, 1) := by decide +kernel
theorem dX12_passes_21 : decode cX12_passes 21 = .ok (.iload_n 1, 1) := by decide +kernel
theorem dX12_passes_22 : decode cX12_passes 22 = .ok (.invokevirtual 305, 3) := by decide +kernel
theorem dX12_passes_25 : decode cX12_passes 25 = .ok (.ifCond .eq 156, 3) := by decide +kernel
theorem dX12_passes_28 : decode cX12_passes 28 = .ok (.aload_n 0, 1) := by decide +kernel
theorem dX12_passes_29 : decode cX12_passes 29 = .ok (.getfield 40, 3) := by decide +kernel
theorem dX12_passes_32 : decode cX12_passes 32 = .ok (.iload_n 1, 1) := by decide +kernel
theorem dX12_passes_33 : decode cX12_passes 33 = .ok (.iaload, 1) := by decide +kernel
theorem dX12_passes_34 : decode cX12_passes 34 = .ok (.aload_n 0, 1) := by decide +kernel
theorem dX12_passes_35 : decode cX12_passes 35 = .ok (.getfield 168, 3) := by decide +kernel
theorem dX12_passes_38 : decode cX12_passes 38 = .ok (.if_icmp .ne 6, 3) := by decide +kernel
theorem dX12_passes_41 : decode cX12_passes 41 = .ok (.goto 140, 3) := by decide +kernel
theorem dX12_passes_44 : decode cX12_passes 44 = .ok (.aload_n 0, 1) := by decide +kernel
theorem dX12_passes_45 : decode cX12_passes 45 = .ok (.iload_n 1, 1) := by decide +kernel
theorem dX12_passes_46 : decode cX12_passes 46 = .ok (.invokevirtual 340, 3) := by decide +kernel
theorem dX12_passes_49 : decode cX12_passes 49 = .ok (.istore_n 2, 1) := by decide +kernel
theorem dX12_passes_50 : decode cX12_passes 50 = .ok (.aload_n 0, 1) := by decide +kernel
theorem dX12_passes_51 : decode cX12_passes 51 = .ok (.iload_n 2, 1) := by decide +kernel
theorem dX12_passes_52 : decode cX12_passes 52 = .ok (.iload_n 1, 1) := by decide +kernel
theorem dX12_passes_53 : decode cX12_passes 53 = .ok (.invokevirtual 331, 3) := by decide +kernel
theorem dX12_passes_56 : decode cX12_passes 56 = .ok (.aload_n 0, 1) := by decide +kernel
theorem dX12_passes_57 : decode cX12_passes 57 = .ok (.getfield 28, 3) := by decide +kernel
theorem dX12_passes_60 : decode cX12_passes 60 = .ok (.iload_n 1, 1) := by decide +kernel
theorem dX12_passes_61 : decode cX12_passes 61 = .ok (.iaload, 1) := by decide +kernel
theorem dX12_passes_62 : decode cX12_passes 62 = .ok (.iconst 1, 1) := by decide +kernel
theorem dX12_passes_63 : decode cX12_passes 63 = .ok (.if_icmp .ne 7, 3) := by decide +kernel
theorem dX12_passes_66 : decode cX12_passes 66 = .ok (.iconst 1, 1) := by decide +kernel
theorem dX12_passes_67 : decode cX12_passes 67 = .ok (.goto 4, 3) := by decide +kernel
theorem dX12_passes_70 : decode cX12_passes 70 = .ok (.iconst 0, 1) := by decide +kernel
theorem dX12_passes_71 : decode cX12_passes 71 = .ok (.istore_n 3, 1) := by decide +kernel
theorem dX12_passes_72 : decode cX12_passes 72 = .ok (.aload_n 0, 1) := by decide +kernel
theorem dX12_passes_73 : decode cX12_passes 73 = .ok (.getfield 318, 3) := by decide +kernel
theorem dX12_passes_76 : decode cX12_passes 76 = .ok (.ifCond .le 59, 3) := by decide +kernel
theorem dX12_passes_79 : decode cX12_passes 79 = .ok (.aload_n 0, 1) := by decide +kernel
theorem dX12_passes_80 : decode cX12_passes 80 = .ok (.getfield 318, 3) := by decide +kernel
theorem dX12_passes_83 : decode cX12_passes 83 = .ok (.aload_n 0, 1) := by decide +kernel
theorem dX12_passes_84 : decode cX12_passes 84 = .ok (.getfield 43, 3) := by decide +kernel
theorem dX12_passes_87 : decode cX12_passes 87 = .ok (.iload_n 1, 1) := by decide +kernel
theorem dX12_passes_88 : decode cX12_passes 88 = .ok (.iaload, 1) := by decide +kernel
theorem dX12_passes_89 : decode cX12_passes 89 = .ok (.if_icmp .gt 46, 3) := by decide +kernel
theorem dX12_passes_92 : decode cX12_passes 92 = .ok (.iload_n 3, 1) := by decide +kernel
theorem dX12_passes_93 : decode cX12_passes 93 = .ok (.ifCond .eq 28, 3) := by decide +kernel
theorem dX12_passes_96 : decode cX12_passes 96 = .ok (.aload_n 0, 1) := by decide +kernel
theorem dX12_passes_97 : decode cX12_passes 97 = .ok (.getfield 318, 3) := by decide +kernel
theorem dX12_passes_100 : decode cX12_passes 100 = .ok (.aload_n 0, 1) := by decide +kernel
theorem dX12_passes_101 : decode cX12_passes 101 = .ok (.getfield 34, 3) := by decide +kernel
theorem dX12_passes_104 : decode cX12_passes 104 = .ok (.iload_n 1, 1) := by decide +kernel
theorem dX12_passes_105 : decode cX12_passes 105 = .ok (.iaload, 1) := by decide +kernel
theorem dX12_passes_106 : decode cX12_passes 106 = .ok (.aload_n 0, 1) := by decide +kernel
theorem dX12_passes_107 : decode cX12_passes 107 = .ok (.getfield 321, 3) := by decide +kernel
theorem dX12_passes_110 : decode cX12_passes 110 = .ok (.aload_n 0, 1) := by decide +kernel
theorem dX12_passes_111 : decode cX12_passes 111 = .ok (.getfield 46, 3) := by decide +kernel
theorem dX12_passes_114 : decode cX12_passes 114 = .ok (.iload_n 1, 1) := by decide +kernel
theorem dX12_passes_115 : decode cX12_passes 115 = .ok (.iaload, 1) := by decide +kernel
theorem dX12_passes_116 : decode cX12_passes 116 = .ok (.isub, 1) := by decide +kernel
theorem dX12_passes_117 : decode cX12_passes 117 = .ok (.imul, 1) := by decide +kernel
theorem dX12_passes_118 : decode cX12_passes 118 = .ok (.if_icmp .gt 17, 3) := by decide +kernel
theorem dX12_passes_121 : decode cX12_passes 121 = .ok (.aload_n 0, 1) := by decide +kernel
theorem dX12_passes_122 : decode cX12_passes 122 = .ok (.iload_n 2, 1) := by decide +kernel
theorem dX12_passes_123 : decode cX12_passes 123 = .ok (.iload_n 1, 1) := by decide +kernel
theorem dX12_passes_124 : decode cX12_passes 124 = .ok (.invokevirtual 343, 3) := by decide +kernel
theorem dX12_passes_127 : decode cX12_passes 127 = .ok (.aload_n 0, 1) := by decide +kernel
theorem dX12_passes_128 : decode cX12_passes 128 = .ok (.iload_n 1, 1) := by decide +kernel
theorem dX12_passes_129 : decode cX12_passes 129 = .ok (.invokevirtual 346, 3) := by decide +kernel
theorem dX12_passes_132 : decode cX12_passes 132 = .ok (.goto 49, 3) := by decide +kernel
theorem dX12_passes_135 : decode cX12_passes 135 = .ok (.iload_n 3, 1) := by decide +kernel
theorem dX12_passes_136 : decode cX12_passes 136 = .ok (.ifCond .ne 10, 3) := by decide +kernel
theorem dX12_passes_139 : decode cX12_passes 139 = .ok (.aload_n 0, 1) := by decide +kernel
theorem dX12_passes_140 : decode cX12_passes 140 = .ok (.getfield 318, 3) := by decide +kernel
theorem dX12_passes_143 : decode cX12_passes 143 = .ok (.ifCond .ne 24, 3) := by decide +kernel
theorem dX12_passes_146 : decode cX12_passes 146 = .ok (.aload_n 0, 1) := by decide +kernel
theorem dX12_passes_147 : decode cX12_passes 147 = .ok (.getfield 46, 3) := by decide +kernel
theorem dX12_passes_150 : decode cX12_passes 150 = .ok (.iload_n 1, 1) := by decide +kernel
theorem dX12_passes_151 : decode cX12_passes 151 = .ok (.iaload, 1) := by decide +kernel
theorem dX12_passes_152 : decode cX12_passes 152 = .ok (.aload_n 0, 1) := by decide +kernel
theorem dX12_passes_153 : decode cX12_passes 153 = .ok (.getfield 321, 3) := by decide +kernel
theorem dX12_passes_156 : decode cX12_passes 156 = .ok (.if_icmp .lt 11, 3) := by decide +kernel
theorem dX12_passes_159 : decode cX12_passes 159 = .ok (.aload_n 0, 1) := by decide +kernel
theorem dX12_passes_160 : decode cX12_passes 160 = .ok (.iload_n 1, 1) := by decide +kernel
theorem dX12_passes_161 : decode cX12_passes 161 = .ok (.invokevirtual 346, 3) := by decide +kernel
theorem dX12_passes_164 : decode cX12_passes 164 = .ok (.goto 17, 3) := by decide +kernel
theorem dX12_passes_167 : decode cX12_passes 167 = .ok (.aload_n 0, 1) := by decide +kernel
theorem dX12_passes_168 : decode cX12_passes 168 = .ok (.getfield 46, 3) := by decide +kernel
theorem dX12_passes_171 : decode cX12_passes 171 = .ok (.iload_n 1, 1) := by decide +kernel
theorem dX12_passes_172 : decode cX12_passes 172 = .ok (.aload_n 0, 1) := by decide +kernel
theorem dX12_passes_173 : decode cX12_passes 173 = .ok (.getfield 46, 3) := by decide +kernel
theorem dX12_passes_176 : decode cX12_passes 176 = .ok (.iload_n 1, 1) := by decide +kernel
theorem dX12_passes_177 : decode cX12_passes 177 = .ok (.iaload, 1) := by decide +kernel
theorem dX12_passes_178 : decode cX12_passes 178 = .ok (.iconst 1, 1) := by decide +kernel
theorem dX12_passes_179 : decode cX12_passes 179 = .ok (.iadd, 1) := by decide +kernel
theorem dX12_passes_180 : decode cX12_passes 180 = .ok (.iastore, 1) := by decide +kernel
theorem dX12_passes_181 : decode cX12_passes 181 = .ok (.iinc 1 1, 3) := by decide +kernel
theorem dX12_passes_184 : decode cX12_passes 184 = .ok (.goto (-172), 3) := by decide +kernel
theorem dX12_passes_187 : decode cX12_passes 187 = .ok (.aload_n 0, 1) := by decide +kernel
theorem dX12_passes_188 : decode cX12_passes 188 = .ok (.aload_n 0, 1) := by decide +kernel
theorem dX12_passes_189 : decode cX12_passes 189 = .ok (.getfield 337, 3) := by decide +kernel
theorem dX12_passes_192 : decode cX12_passes 192 = .ok (.invokestatic 328, 3) := by decide +kernel
theorem dX12_passes_195 : decode cX12_passes 195 = .ok (.putfield 308, 3) := by decide +kernel
theorem dX12_passes_198 : decode cX12_passes 198 = .ok (.aload_n 0, 1) := by decide +kernel
theorem dX12_passes_199 : decode cX12_passes 199 = .ok (.aload_n 0, 1) := by decide +kernel
theorem dX12_passes_200 : decode cX12_passes 200 = .ok (.getfield 183, 3) := by decide +kernel
theorem dX12_passes_203 : decode cX12_passes 203 = .ok (.iconst 1, 1) := by decide +kernel
theorem dX12_passes_204 : decode cX12_passes 204 = .ok (.iadd, 1) := by decide +kernel
theorem dX12_passes_205 : decode cX12_passes 205 = .ok (.putfield 183, 3) := by decide +kernel
theorem dX12_passes_208 : decode cX12_passes 208 = .ok (.return_, 1) := by decide +kernel
theorem dX12_month_0 : decode cX12_month 0 = .ok (.aload_n 0, 1) := by decide +kernel
theorem dX12_month_1 : decode cX12_month 1 = .ok (.getfield 183, 3) := by decide +kernel
theorem dX12_month_4 : decode cX12_month 4 = .ok (.sipush 239, 3) := by decide +kernel
theorem dX12_month_7 : decode cX12_month 7 = .ok (.if_icmp .ne 5, 3) := by decide +kernel
theorem dX12_month_10 : decode cX12_month 10 = .ok (.iconst (-1), 1) := by decide +kernel
theorem dX12_month_11 : decode cX12_month 11 = .ok (.ireturn, 1) := by decide +kernel
theorem dX12_month_12 : decode cX12_month 12 = .ok (.aload_n 0, 1) := by decide +kernel
theorem dX12_month_13 : decode cX12_month 13 = .ok (.invokevirtual 349, 3) := by decide +kernel
theorem dX12_month_16 : decode cX12_month 16 = .ok (.aload_n 0, 1) := by decide +kernel
theorem dX12_month_17 : decode cX12_month 17 = .ok (.getfield 334, 3) := by decide +kernel
theorem dX12_month_20 : decode cX12_month 20 = .ok (.ireturn, 1) := by decide +kernel
theorem dX12_fileIs_0 : decode cX12_fileIs 0 = .ok (.aload_n 0, 1) := by decide +kernel
theorem dX12_fileIs_1 : decode cX12_fileIs 1 = .ok (.iload_n 1, 1) := by decide +kernel
theorem dX12_fileIs_2 : decode cX12_fileIs 2 = .ok (.invokevirtual 352, 3) := by decide +kernel
theorem dX12_fileIs_5 : decode cX12_fileIs 5 = .ok (.ifCond .ne 5, 3) := by decide +kernel
theorem dX12_fileIs_8 : decode cX12_fileIs 8 = .ok (.iconst (-1), 1) := by decide +kernel
theorem dX12_fileIs_9 : decode cX12_fileIs 9 = .ok (.ireturn, 1) := by decide +kernel
theorem dX12_fileIs_10 : decode cX12_fileIs 10 = .ok (.iload_n 2, 1) := by decide +kernel
theorem dX12_fileIs_11 : decode cX12_fileIs 11 = .ok (.tableswitch 90 0 6 #[41, 48, 55, 62, 69, 76, 83], 41) := by decide +kernel
theorem dX12_fileIs_52 : decode cX12_fileIs 52 = .ok (.aload_n 0, 1) := by decide +kernel
theorem dX12_fileIs_53 : decode cX12_fileIs 53 = .ok (.getfield 40, 3) := by decide +kernel
theorem dX12_fileIs_56 : decode cX12_fileIs 56 = .ok (.iload_n 1, 1) := by decide +kernel
theorem dX12_fileIs_57 : decode cX12_fileIs 57 = .ok (.iaload, 1) := by decide +kernel
theorem dX12_fileIs_58 : decode cX12_fileIs 58 = .ok (.ireturn, 1) := by decide +kernel
theorem dX12_fileIs_59 : decode cX12_fileIs 59 = .ok (.aload_n 0, 1) := by decide +kernel
theorem dX12_fileIs_60 : decode cX12_fileIs 60 = .ok (.getfield 43, 3) := by decide +kernel
theorem dX12_fileIs_63 : decode cX12_fileIs 63 = .ok (.iload_n 1, 1) := by decide +kernel
theorem dX12_fileIs_64 : decode cX12_fileIs 64 = .ok (.iaload, 1) := by decide +kernel
theorem dX12_fileIs_65 : decode cX12_fileIs 65 = .ok (.ireturn, 1) := by decide +kernel
theorem dX12_fileIs_66 : decode cX12_fileIs 66 = .ok (.aload_n 0, 1) := by decide +kernel
theorem dX12_fileIs_67 : decode cX12_fileIs 67 = .ok (.getfield 46, 3) := by decide +kernel
theorem dX12_fileIs_70 : decode cX12_fileIs 70 = .ok (.iload_n 1, 1) := by decide +kernel
theorem dX12_fileIs_71 : decode cX12_fileIs 71 = .ok (.iaload, 1) := by decide +kernel
theorem dX12_fileIs_72 : decode cX12_fileIs 72 = .ok (.ireturn, 1) := by decide +kernel
theorem dX12_fileIs_73 : decode cX12_fileIs 73 = .ok (.aload_n 0, 1) := by decide +kernel
theorem dX12_fileIs_74 : decode cX12_fileIs 74 = .ok (.getfield 49, 3) := by decide +kernel
theorem dX12_fileIs_77 : decode cX12_fileIs 77 = .ok (.iload_n 1, 1) := by decide +kernel
theorem dX12_fileIs_78 : decode cX12_fileIs 78 = .ok (.iaload, 1) := by decide +kernel
theorem dX12_fileIs_79 : decode cX12_fileIs 79 = .ok (.ireturn, 1) := by decide +kernel
theorem dX12_fileIs_80 : decode cX12_fileIs 80 = .ok (.aload_n 0, 1) := by decide +kernel
theorem dX12_fileIs_81 : decode cX12_fileIs 81 = .ok (.getfield 52, 3) := by decide +kernel
theorem dX12_fileIs_84 : decode cX12_fileIs 84 = .ok (.iload_n 1, 1) := by decide +kernel
theorem dX12_fileIs_85 : decode cX12_fileIs 85 = .ok (.iaload, 1) := by decide +kernel
theorem dX12_fileIs_86 : decode cX12_fileIs 86 = .ok (.ireturn, 1) := by decide +kernel
theorem dX12_fileIs_87 : decode cX12_fileIs 87 = .ok (.aload_n 0, 1) := by decide +kernel
theorem dX12_fileIs_88 : decode cX12_fileIs 88 = .ok (.getfield 55, 3) := by decide +kernel
theorem dX12_fileIs_91 : decode cX12_fileIs 91 = .ok (.iload_n 1, 1) := by decide +kernel
theorem dX12_fileIs_92 : decode cX12_fileIs 92 = .ok (.iaload, 1) := by decide +kernel
theorem dX12_fileIs_93 : decode cX12_fileIs 93 = .ok (.ireturn, 1) := by decide +kernel
theorem dX12_fileIs_94 : decode cX12_fileIs 94 = .ok (.aload_n 0, 1) := by decide +kernel
theorem dX12_fileIs_95 : decode cX12_fileIs 95 = .ok (.getfield 37, 3) := by decide +kernel
theorem dX12_fileIs_98 : decode cX12_fileIs 98 = .ok (.iload_n 1, 1) := by decide +kernel
theorem dX12_fileIs_99 : decode cX12_fileIs 99 = .ok (.iaload, 1) := by decide +kernel
theorem dX12_fileIs_100 : decode cX12_fileIs 100 = .ok (.ireturn, 1) := by decide +kernel
theorem dX12_fileIs_101 : decode cX12_fileIs 101 = .ok (.iconst (-1), 1) := by decide +kernel
theorem dX12_fileIs_102 : decode cX12_fileIs 102 = .ok (.ireturn, 1) := by decide +kernel
theorem dX12_clerkIs_0 : decode cX12_clerkIs 0 = .ok (.aload_n 0, 1) := by decide +kernel
theorem dX12_clerkIs_1 : decode cX12_clerkIs 1 = .ok (.iload_n 1, 1) := by decide +kernel
theorem dX12_clerkIs_2 : decode cX12_clerkIs 2 = .ok (.invokevirtual 291, 3) := by decide +kernel
theorem dX12_clerkIs_5 : decode cX12_clerkIs 5 = .ok (.ifCond .eq 12, 3) := by decide +kernel
theorem dX12_clerkIs_8 : decode cX12_clerkIs 8 = .ok (.iload_n 2, 1) := by decide +kernel
theorem dX12_clerkIs_9 : decode cX12_clerkIs 9 = .ok (.iconst 0, 1) := by decide +kernel
theorem dX12_clerkIs_10 : decode cX12_clerkIs 10 = .ok (.iconst 3, 1) := by decide +kernel
theorem dX12_clerkIs_11 : decode cX12_clerkIs 11 = .ok (.invokestatic 174, 3) := by decide +kernel
theorem dX12_clerkIs_14 : decode cX12_clerkIs 14 = .ok (.ifCond .ne 7, 3) := by decide +kernel
theorem dX12_clerkIs_17 : decode cX12_clerkIs 17 = .ok (.ldc_w 355, 3) := by decide +kernel
theorem dX12_clerkIs_20 : decode cX12_clerkIs 20 = .ok (.ireturn, 1) := by decide +kernel
theorem dX12_clerkIs_21 : decode cX12_clerkIs 21 = .ok (.iload_n 2, 1) := by decide +kernel
theorem dX12_clerkIs_22 : decode cX12_clerkIs 22 = .ok (.ifCond .ne 12, 3) := by decide +kernel
theorem dX12_clerkIs_25 : decode cX12_clerkIs 25 = .ok (.aload_n 0, 1) := by decide +kernel
theorem dX12_clerkIs_26 : decode cX12_clerkIs 26 = .ok (.getfield 16, 3) := by decide +kernel
theorem dX12_clerkIs_29 : decode cX12_clerkIs 29 = .ok (.iload_n 1, 1) := by decide +kernel
theorem dX12_clerkIs_30 : decode cX12_clerkIs 30 = .ok (.iaload, 1) := by decide +kernel
theorem dX12_clerkIs_31 : decode cX12_clerkIs 31 = .ok (.goto 37, 3) := by decide +kernel
theorem dX12_clerkIs_34 : decode cX12_clerkIs 34 = .ok (.iload_n 2, 1) := by decide +kernel
theorem dX12_clerkIs_35 : decode cX12_clerkIs 35 = .ok (.iconst 1, 1) := by decide +kernel
theorem dX12_clerkIs_36 : decode cX12_clerkIs 36 = .ok (.if_icmp .ne 12, 3) := by decide +kernel
theorem dX12_clerkIs_39 : decode cX12_clerkIs 39 = .ok (.aload_n 0, 1) := by decide +kernel
theorem dX12_clerkIs_40 : decode cX12_clerkIs 40 = .ok (.getfield 19, 3) := by decide +kernel
theorem dX12_clerkIs_43 : decode cX12_clerkIs 43 = .ok (.iload_n 1, 1) := by decide +kernel
theorem dX12_clerkIs_44 : decode cX12_clerkIs 44 = .ok (.iaload, 1) := by decide +kernel
theorem dX12_clerkIs_45 : decode cX12_clerkIs 45 = .ok (.goto 23, 3) := by decide +kernel
theorem dX12_clerkIs_48 : decode cX12_clerkIs 48 = .ok (.iload_n 2, 1) := by decide +kernel
theorem dX12_clerkIs_49 : decode cX12_clerkIs 49 = .ok (.iconst 2, 1) := by decide +kernel
theorem dX12_clerkIs_50 : decode cX12_clerkIs 50 = .ok (.if_icmp .ne 12, 3) := by decide +kernel
theorem dX12_clerkIs_53 : decode cX12_clerkIs 53 = .ok (.aload_n 0, 1) := by decide +kernel
theorem dX12_clerkIs_54 : decode cX12_clerkIs 54 = .ok (.getfield 7, 3) := by decide +kernel
theorem dX12_clerkIs_57 : decode cX12_clerkIs 57 = .ok (.iload_n 1, 1) := by decide +kernel
theorem dX12_clerkIs_58 : decode cX12_clerkIs 58 = .ok (.iaload, 1) := by decide +kernel
theorem dX12_clerkIs_59 : decode cX12_clerkIs 59 = .ok (.goto 9, 3) := by decide +kernel
theorem dX12_clerkIs_62 : decode cX12_clerkIs 62 = .ok (.aload_n 0, 1) := by decide +kernel
theorem dX12_clerkIs_63 : decode cX12_clerkIs 63 = .ok (.getfield 13, 3) := by decide +kernel
theorem dX12_clerkIs_66 : decode cX12_clerkIs 66 = .ok (.iload_n 1, 1) := by decide +kernel
theorem dX12_clerkIs_67 : decode cX12_clerkIs 67 = .ok (.iaload, 1) := by decide +kernel
theorem dX12_clerkIs_68 : decode cX12_clerkIs 68 = .ok (.ireturn, 1) := by decide +kernel
theorem dX12_isWaiting_0 : decode cX12_isWaiting 0 = .ok (.aload_n 0, 1) := by decide +kernel
theorem dX12_isWaiting_1 : decode cX12_isWaiting 1 = .ok (.iload_n 1, 1) := by decide +kernel
theorem dX12_isWaiting_2 : decode cX12_isWaiting 2 = .ok (.invokevirtual 352, 3) := by decide +kernel
theorem dX12_isWaiting_5 : decode cX12_isWaiting 5 = .ok (.ifCond .eq 20, 3) := by decide +kernel
theorem dX12_isWaiting_8 : decode cX12_isWaiting 8 = .ok (.aload_n 0, 1) := by decide +kernel
theorem dX12_isWaiting_9 : decode cX12_isWaiting 9 = .ok (.getfield 40, 3) := by decide +kernel
theorem dX12_isWaiting_12 : decode cX12_isWaiting 12 = .ok (.iload_n 1, 1) := by decide +kernel
theorem dX12_isWaiting_13 : decode cX12_isWaiting 13 = .ok (.iaload, 1) := by decide +kernel
theorem dX12_isWaiting_14 : decode cX12_isWaiting 14 = .ok (.aload_n 0, 1) := by decide +kernel
theorem dX12_isWaiting_15 : decode cX12_isWaiting 15 = .ok (.getfield 168, 3) := by decide +kernel
theorem dX12_isWaiting_18 : decode cX12_isWaiting 18 = .ok (.if_icmp .ge 7, 3) := by decide +kernel
theorem dX12_isWaiting_21 : decode cX12_isWaiting 21 = .ok (.iconst 1, 1) := by decide +kernel
theorem dX12_isWaiting_22 : decode cX12_isWaiting 22 = .ok (.goto 4, 3) := by decide +kernel
theorem dX12_isWaiting_25 : decode cX12_isWaiting 25 = .ok (.iconst 0, 1) := by decide +kernel
theorem dX12_isWaiting_26 : decode cX12_isWaiting 26 = .ok (.ireturn, 1) := by decide +kernel
theorem dX12_asks_0 : decode cX12_asks 0 = .ok (.aload_n 0, 1) := by decide +kernel
theorem dX12_asks_1 : decode cX12_asks 1 = .ok (.iload_n 1, 1) := by decide +kernel
theorem dX12_asks_2 : decode cX12_asks 2 = .ok (.invokevirtual 291, 3) := by decide +kernel
theorem dX12_asks_5 : decode cX12_asks 5 = .ok (.ifCond .eq 38, 3) := by decide +kernel
theorem dX12_asks_8 : decode cX12_asks 8 = .ok (.aload_n 0, 1) := by decide +kernel
theorem dX12_asks_9 : decode cX12_asks 9 = .ok (.iload_n 2, 1) := by decide +kernel
theorem dX12_asks_10 : decode cX12_asks 10 = .ok (.invokevirtual 356, 3) := by decide +kernel
theorem dX12_asks_13 : decode cX12_asks 13 = .ok (.ifCond .eq 30, 3) := by decide +kernel
theorem dX12_asks_16 : decode cX12_asks 16 = .ok (.iload_n 3, 1) := by decide +kernel
theorem dX12_asks_17 : decode cX12_asks 17 = .ok (.iconst 0, 1) := by decide +kernel
theorem dX12_asks_18 : decode cX12_asks 18 = .ok (.iconst 1, 1) := by decide +kernel
theorem dX12_asks_19 : decode cX12_asks 19 = .ok (.invokestatic 174, 3) := by decide +kernel
theorem dX12_asks_22 : decode cX12_asks 22 = .ok (.ifCond .eq 21, 3) := by decide +kernel
theorem dX12_asks_25 : decode cX12_asks 25 = .ok (.aload_n 0, 1) := by decide +kernel
theorem dX12_asks_26 : decode cX12_asks 26 = .ok (.getfield 22, 3) := by decide +kernel
theorem dX12_asks_29 : decode cX12_asks 29 = .ok (.aload_n 0, 1) := by decide +kernel
theorem dX12_asks_30 : decode cX12_asks 30 = .ok (.getfield 40, 3) := by decide +kernel
theorem dX12_asks_33 : decode cX12_asks 33 = .ok (.iload_n 2, 1) := by decide +kernel
theorem dX12_asks_34 : decode cX12_asks 34 = .ok (.iaload, 1) := by decide +kernel
theorem dX12_asks_35 : decode cX12_asks 35 = .ok (.iaload, 1) := by decide +kernel
theorem dX12_asks_36 : decode cX12_asks 36 = .ok (.iload_n 1, 1) := by decide +kernel
theorem dX12_asks_37 : decode cX12_asks 37 = .ok (.ishr, 1) := by decide +kernel
theorem dX12_asks_38 : decode cX12_asks 38 = .ok (.iconst 1, 1) := by decide +kernel
theorem dX12_asks_39 : decode cX12_asks 39 = .ok (.iand, 1) := by decide +kernel
theorem dX12_asks_40 : decode cX12_asks 40 = .ok (.ifCond .ne 5, 3) := by decide +kernel
theorem dX12_asks_43 : decode cX12_asks 43 = .ok (.iconst (-1), 1) := by decide +kernel
theorem dX12_asks_44 : decode cX12_asks 44 = .ok (.ireturn, 1) := by decide +kernel
theorem dX12_asks_45 : decode cX12_asks 45 = .ok (.aload_n 0, 1) := by decide +kernel
theorem dX12_asks_46 : decode cX12_asks 46 = .ok (.iload_n 1, 1) := by decide +kernel
theorem dX12_asks_47 : decode cX12_asks 47 = .ok (.iload_n 2, 1) := by decide +kernel
theorem dX12_asks_48 : decode cX12_asks 48 = .ok (.invokevirtual 331, 3) := by decide +kernel
theorem dX12_asks_51 : decode cX12_asks 51 = .ok (.iload_n 3, 1) := by decide +kernel
theorem dX12_asks_52 : decode cX12_asks 52 = .ok (.ifCond .ne 10, 3) := by decide +kernel
theorem dX12_asks_55 : decode cX12_asks 55 = .ok (.aload_n 0, 1) := by decide +kernel
theorem dX12_asks_56 : decode cX12_asks 56 = .ok (.getfield 318, 3) := by decide +kernel
theorem dX12_asks_59 : decode cX12_asks 59 = .ok (.goto 7, 3) := by decide +kernel
theorem dX12_asks_62 : decode cX12_asks 62 = .ok (.aload_n 0, 1) := by decide +kernel
theorem dX12_asks_63 : decode cX12_asks 63 = .ok (.getfield 321, 3) := by decide +kernel
theorem dX12_asks_66 : decode cX12_asks 66 = .ok (.ireturn, 1) := by decide +kernel
theorem dX12_told_0 : decode cX12_told 0 = .ok (.aload_n 0, 1) := by decide +kernel
theorem dX12_told_1 : decode cX12_told 1 = .ok (.iload_n 1, 1) := by decide +kernel
theorem dX12_told_2 : decode cX12_told 2 = .ok (.invokevirtual 291, 3) := by decide +kernel
theorem dX12_told_5 : decode cX12_told 5 = .ok (.ifCond .eq 32, 3) := by decide +kernel
theorem dX12_told_8 : decode cX12_told 8 = .ok (.aload_n 0, 1) := by decide +kernel
theorem dX12_told_9 : decode cX12_told 9 = .ok (.iload_n 2, 1) := by decide +kernel
theorem dX12_told_10 : decode cX12_told 10 = .ok (.invokevirtual 356, 3) := by decide +kernel
theorem dX12_told_13 : decode cX12_told 13 = .ok (.ifCond .eq 24, 3) := by decide +kernel
theorem dX12_told_16 : decode cX12_told 16 = .ok (.iload_n 3, 1) := by decide +kernel
theorem dX12_told_17 : decode cX12_told 17 = .ok (.iconst 0, 1) := by decide +kernel
theorem dX12_told_18 : decode cX12_told 18 = .ok (.sipush 10000, 3) := by decide +kernel
theorem dX12_told_21 : decode cX12_told 21 = .ok (.invokestatic 174, 3) := by decide +kernel
theorem dX12_told_24 : decode cX12_told 24 = .ok (.ifCond .eq 13, 3) := by decide +kernel
theorem dX12_told_27 : decode cX12_told 27 = .ok (.iload 4, 2) := by decide +kernel
theorem dX12_told_29 : decode cX12_told 29 = .ok (.iconst 0, 1) := by decide +kernel
theorem dX12_told_30 : decode cX12_told 30 = .ok (.iconst 2, 1) := by decide +kernel
theorem dX12_told_31 : decode cX12_told 31 = .ok (.invokestatic 174, 3) := by decide +kernel
theorem dX12_told_34 : decode cX12_told 34 = .ok (.ifCond .ne 5, 3) := by decide +kernel
theorem dX12_told_37 : decode cX12_told 37 = .ok (.iconst (-1), 1) := by decide +kernel
theorem dX12_told_38 : decode cX12_told 38 = .ok (.ireturn, 1) := by decide +kernel
theorem dX12_told_39 : decode cX12_told 39 = .ok (.aload_n 0, 1) := by decide +kernel
theorem dX12_told_40 : decode cX12_told 40 = .ok (.iload_n 1, 1) := by decide +kernel
theorem dX12_told_41 : decode cX12_told 41 = .ok (.iload_n 2, 1) := by decide +kernel
theorem dX12_told_42 : decode cX12_told 42 = .ok (.iload_n 3, 1) := by decide +kernel
theorem dX12_told_43 : decode cX12_told 43 = .ok (.invokevirtual 311, 3) := by decide +kernel
theorem dX12_told_46 : decode cX12_told 46 = .ok (.aload_n 0, 1) := by decide +kernel
theorem dX12_told_47 : decode cX12_told 47 = .ok (.bipush 10, 2) := by decide +kernel
theorem dX12_told_49 : decode cX12_told 49 = .ok (.iload 4, 2) := by decide +kernel
theorem dX12_told_51 : decode cX12_told 51 = .ok (.ifCond .ne 8, 3) := by decide +kernel
theorem dX12_told_54 : decode cX12_told 54 = .ok (.bipush 103, 2) := by decide +kernel
theorem dX12_told_56 : decode cX12_told 56 = .ok (.goto 16, 3) := by decide +kernel
theorem dX12_told_59 : decode cX12_told 59 = .ok (.iload 4, 2) := by decide +kernel
theorem dX12_told_61 : decode cX12_told 61 = .ok (.iconst 1, 1) := by decide +kernel
theorem dX12_told_62 : decode cX12_told 62 = .ok (.if_icmp .ne 8, 3) := by decide +kernel
theorem dX12_told_65 : decode cX12_told 65 = .ok (.bipush 107, 2) := by decide +kernel
theorem dX12_told_67 : decode cX12_told 67 = .ok (.goto 5, 3) := by decide +kernel
theorem dX12_told_70 : decode cX12_told 70 = .ok (.bipush 98, 2) := by decide +kernel
theorem dX12_told_72 : decode cX12_told 72 = .ok (.sipush 10000, 3) := by decide +kernel
theorem dX12_told_75 : decode cX12_told 75 = .ok (.invokevirtual 315, 3) := by decide +kernel
theorem dX12_told_78 : decode cX12_told 78 = .ok (.ireturn, 1) := by decide +kernel
theorem dX12_gainOf_0 : decode cX12_gainOf 0 = .ok (.iconst 0, 1) := by decide +kernel
theorem dX12_gainOf_1 : decode cX12_gainOf 1 = .ok (.istore_n 3, 1) := by decide +kernel
theorem dX12_gainOf_2 : decode cX12_gainOf 2 = .ok (.iload_n 3, 1) := by decide +kernel
theorem dX12_gainOf_3 : decode cX12_gainOf 3 = .ok (.bipush 12, 2) := by decide +kernel
theorem dX12_gainOf_5 : decode cX12_gainOf 5 = .ok (.if_icmp .ge 16, 3) := by decide +kernel
theorem dX12_gainOf_8 : decode cX12_gainOf 8 = .ok (.aload_n 0, 1) := by decide +kernel
theorem dX12_gainOf_9 : decode cX12_gainOf 9 = .ok (.getfield 101, 3) := by decide +kernel
theorem dX12_gainOf_12 : decode cX12_gainOf 12 = .ok (.iload_n 3, 1) := by decide +kernel
theorem dX12_gainOf_13 : decode cX12_gainOf 13 = .ok (.iconst 0, 1) := by decide +kernel
theorem dX12_gainOf_14 : decode cX12_gainOf 14 = .ok (.iastore, 1) := by decide +kernel
theorem dX12_gainOf_15 : decode cX12_gainOf 15 = .ok (.iinc 3 1, 3) := by decide +kernel
theorem dX12_gainOf_18 : decode cX12_gainOf 18 = .ok (.goto (-16), 3) := by decide +kernel
theorem dX12_gainOf_21 : decode cX12_gainOf 21 = .ok (.aload_n 0, 1) := by decide +kernel
theorem dX12_gainOf_22 : decode cX12_gainOf 22 = .ok (.getfield 101, 3) := by decide +kernel
theorem dX12_gainOf_25 : decode cX12_gainOf 25 = .ok (.iconst 5, 1) := by decide +kernel
theorem dX12_gainOf_26 : decode cX12_gainOf 26 = .ok (.aload_n 0, 1) := by decide +kernel
theorem dX12_gainOf_27 : decode cX12_gainOf 27 = .ok (.getfield 13, 3) := by decide +kernel
theorem dX12_gainOf_30 : decode cX12_gainOf 30 = .ok (.iload_n 1, 1) := by decide +kernel
theorem dX12_gainOf_31 : decode cX12_gainOf 31 = .ok (.iaload, 1) := by decide +kernel
theorem dX12_gainOf_32 : decode cX12_gainOf 32 = .ok (.iastore, 1) := by decide +kernel
theorem dX12_gainOf_33 : decode cX12_gainOf 33 = .ok (.aload_n 0, 1) := by decide +kernel
theorem dX12_gainOf_34 : decode cX12_gainOf 34 = .ok (.getfield 101, 3) := by decide +kernel
theorem dX12_gainOf_37 : decode cX12_gainOf 37 = .ok (.bipush 6, 2) := by decide +kernel
theorem dX12_gainOf_39 : decode cX12_gainOf 39 = .ok (.aload_n 0, 1) := by decide +kernel
theorem dX12_gainOf_40 : decode cX12_gainOf 40 = .ok (.getfield 7, 3) := by decide +kernel
theorem dX12_gainOf_43 : decode cX12_gainOf 43 = .ok (.iload_n 1, 1) := by decide +kernel
theorem dX12_gainOf_44 : decode cX12_gainOf 44 = .ok (.iaload, 1) := by decide +kernel
theorem dX12_gainOf_45 : decode cX12_gainOf 45 = .ok (.iastore, 1) := by decide +kernel
theorem dX12_gainOf_46 : decode cX12_gainOf 46 = .ok (.aload_n 0, 1) := by decide +kernel
theorem dX12_gainOf_47 : decode cX12_gainOf 47 = .ok (.getfield 101, 3) := by decide +kernel
theorem dX12_gainOf_50 : decode cX12_gainOf 50 = .ok (.bipush 7, 2) := by decide +kernel
theorem dX12_gainOf_52 : decode cX12_gainOf 52 = .ok (.iload_n 1, 1) := by decide +kernel
theorem dX12_gainOf_53 : decode cX12_gainOf 53 = .ok (.iastore, 1) := by decide +kernel
theorem dX12_gainOf_54 : decode cX12_gainOf 54 = .ok (.aload_n 0, 1) := by decide +kernel
theorem dX12_gainOf_55 : decode cX12_gainOf 55 = .ok (.getfield 101, 3) := by decide +kernel
theorem dX12_gainOf_58 : decode cX12_gainOf 58 = .ok (.bipush 8, 2) := by decide +kernel
theorem dX12_gainOf_60 : decode cX12_gainOf 60 = .ok (.aload_n 0, 1) := by decide +kernel
theorem dX12_gainOf_61 : decode cX12_gainOf 61 = .ok (.getfield 165, 3) := by decide +kernel
theorem dX12_gainOf_64 : decode cX12_gainOf 64 = .ok (.iastore, 1) := by decide +kernel
theorem dX12_gainOf_65 : decode cX12_gainOf 65 = .ok (.aload_n 0, 1) := by decide +kernel
theorem dX12_gainOf_66 : decode cX12_gainOf 66 = .ok (.getfield 101, 3) := by decide +kernel
theorem dX12_gainOf_69 : decode cX12_gainOf 69 = .ok (.bipush 9, 2) := by decide +kernel
theorem dX12_gainOf_71 : decode cX12_gainOf 71 = .ok (.iload_n 2, 1) := by decide +kernel
theorem dX12_gainOf_72 : decode cX12_gainOf 72 = .ok (.iconst 1, 1) := by decide +kernel
theorem dX12_gainOf_73 : decode cX12_gainOf 73 = .ok (.iload_n 1, 1) := by decide +kernel
theorem dX12_gainOf_74 : decode cX12_gainOf 74 = .ok (.ishl, 1) := by decide +kernel
theorem dX12_gainOf_75 : decode cX12_gainOf 75 = .ok (.iconst (-1), 1) := by decide +kernel
theorem dX12_gainOf_76 : decode cX12_gainOf 76 = .ok (.ixor, 1) := by decide +kernel
theorem dX12_gainOf_77 : decode cX12_gainOf 77 = .ok (.iand, 1) := by decide +kernel
theorem dX12_gainOf_78 : decode cX12_gainOf 78 = .ok (.invokestatic 328, 3) := by decide +kernel
theorem dX12_gainOf_81 : decode cX12_gainOf 81 = .ok (.iastore, 1) := by decide +kernel
theorem dX12_gainOf_82 : decode cX12_gainOf 82 = .ok (.aload_n 0, 1) := by decide +kernel
theorem dX12_gainOf_83 : decode cX12_gainOf 83 = .ok (.aload_n 0, 1) := by decide +kernel
theorem dX12_gainOf_84 : decode cX12_gainOf 84 = .ok (.getfield 89, 3) := by decide +kernel
theorem dX12_gainOf_87 : decode cX12_gainOf 87 = .ok (.sipush 132, 3) := by decide +kernel
theorem dX12_gainOf_90 : decode cX12_gainOf 90 = .ok (.iaload, 1) := by decide +kernel
theorem dX12_gainOf_91 : decode cX12_gainOf 91 = .ok (.aload_n 0, 1) := by decide +kernel
theorem dX12_gainOf_92 : decode cX12_gainOf 92 = .ok (.getfield 95, 3) := by decide +kernel
theorem dX12_gainOf_95 : decode cX12_gainOf 95 = .ok (.sipush 132, 3) := by decide +kernel
theorem dX12_gainOf_98 : decode cX12_gainOf 98 = .ok (.iaload, 1) := by decide +kernel
theorem dX12_gainOf_99 : decode cX12_gainOf 99 = .ok (.invokevirtual 302, 3) := by decide +kernel
theorem dX12_gainOf_102 : decode cX12_gainOf 102 = .ok (.ireturn, 1) := by decide +kernel
theorem dX12_wantsOtherwise_0 : decode cX12_wantsOtherwise 0 = .ok (.aload_n 0, 1) := by decide +kernel
theorem dX12_wantsOtherwise_1 : decode cX12_wantsOtherwise 1 = .ok (.iload_n 1, 1) := by decide +kernel
theorem dX12_wantsOtherwise_2 : decode cX12_wantsOtherwise 2 = .ok (.iload_n 2, 1) := by decide +kernel
theorem dX12_wantsOtherwise_3 : decode cX12_wantsOtherwise 3 = .ok (.invokevirtual 359, 3) := by decide +kernel
theorem dX12_wantsOtherwise_6 : decode cX12_wantsOtherwise 6 = .ok (.istore_n 3, 1) := by decide +kernel
theorem dX12_wantsOtherwise_7 : decode cX12_wantsOtherwise 7 = .ok (.iload_n 2, 1) := by decide +kernel
theorem dX12_wantsOtherwise_8 : decode cX12_wantsOtherwise 8 = .ok (.iload_n 1, 1) := by decide +kernel
theorem dX12_wantsOtherwise_9 : decode cX12_wantsOtherwise 9 = .ok (.ishr, 1) := by decide +kernel
theorem dX12_wantsOtherwise_10 : decode cX12_wantsOtherwise 10 = .ok (.iconst 1, 1) := by decide +kernel
theorem dX12_wantsOtherwise_11 : decode cX12_wantsOtherwise 11 = .ok (.iand, 1) := by decide +kernel
theorem dX12_wantsOtherwise_12 : decode cX12_wantsOtherwise 12 = .ok (.iconst 1, 1) := by decide +kernel
theorem dX12_wantsOtherwise_13 : decode cX12_wantsOtherwise 13 = .ok (.if_icmp .ne 15, 3) := by decide +kernel
theorem dX12_wantsOtherwise_16 : decode cX12_wantsOtherwise 16 = .ok (.iload_n 3, 1) := by decide +kernel
theorem dX12_wantsOtherwise_17 : decode cX12_wantsOtherwise 17 = .ok (.ifCond .ge 7, 3) := by decide +kernel
theorem dX12_wantsOtherwise_20 : decode cX12_wantsOtherwise 20 = .ok (.iconst 1, 1) := by decide +kernel
theorem dX12_wantsOtherwise_21 : decode cX12_wantsOtherwise 21 = .ok (.goto 16, 3) := by decide +kernel
theorem dX12_wantsOtherwise_24 : decode cX12_wantsOtherwise 24 = .ok (.iconst 0, 1) := by decide +kernel
theorem dX12_wantsOtherwise_25 : decode cX12_wantsOtherwise 25 = .ok (.goto 12, 3) := by decide +kernel
theorem dX12_wantsOtherwise_28 : decode cX12_wantsOtherwise 28 = .ok (.iload_n 3, 1) := by decide +kernel
theorem dX12_wantsOtherwise_29 : decode cX12_wantsOtherwise 29 = .ok (.ifCond .le 7, 3) := by decide +kernel
theorem dX12_wantsOtherwise_32 : decode cX12_wantsOtherwise 32 = .ok (.iconst 1, 1) := by decide +kernel
theorem dX12_wantsOtherwise_33 : decode cX12_wantsOtherwise 33 = .ok (.goto 4, 3) := by decide +kernel
theorem dX12_wantsOtherwise_36 : decode cX12_wantsOtherwise 36 = .ok (.iconst 0, 1) := by decide +kernel
theorem dX12_wantsOtherwise_37 : decode cX12_wantsOtherwise 37 = .ok (.ireturn, 1) := by decide +kernel
theorem dX12_isRest_0 : decode cX12_isRest 0 = .ok (.iconst 0, 1) := by decide +kernel
theorem dX12_isRest_1 : decode cX12_isRest 1 = .ok (.istore_n 2, 1) := by decide +kernel
theorem dX12_isRest_2 : decode cX12_isRest 2 = .ok (.iload_n 2, 1) := by decide +kernel
theorem dX12_isRest_3 : decode cX12_isRest 3 = .ok (.aload_n 0, 1) := by decide +kernel
theorem dX12_isRest_4 : decode cX12_isRest 4 = .ok (.getfield 165, 3) := by decide +kernel
theorem dX12_isRest_7 : decode cX12_isRest 7 = .ok (.if_icmp .ge 20, 3) := by decide +kernel
theorem dX12_isRest_10 : decode cX12_isRest 10 = .ok (.aload_n 0, 1) := by decide +kernel
theorem dX12_isRest_11 : decode cX12_isRest 11 = .ok (.iload_n 2, 1) := by decide +kernel
theorem dX12_isRest_12 : decode cX12_isRest 12 = .ok (.iload_n 1, 1) := by decide +kernel
theorem dX12_isRest_13 : decode cX12_isRest 13 = .ok (.invokevirtual 362, 3) := by decide +kernel
theorem dX12_isRest_16 : decode cX12_isRest 16 = .ok (.ifCond .eq 5, 3) := by decide +kernel
theorem dX12_isRest_19 : decode cX12_isRest 19 = .ok (.iconst 0, 1) := by decide +kernel
theorem dX12_isRest_20 : decode cX12_isRest 20 = .ok (.ireturn, 1) := by decide +kernel
theorem dX12_isRest_21 : decode cX12_isRest 21 = .ok (.iinc 2 1, 3) := by decide +kernel
theorem dX12_isRest_24 : decode cX12_isRest 24 = .ok (.goto (-22), 3) := by decide +kernel
theorem dX12_isRest_27 : decode cX12_isRest 27 = .ok (.iconst 1, 1) := by decide +kernel
theorem dX12_isRest_28 : decode cX12_isRest 28 = .ok (.ireturn, 1) := by decide +kernel
theorem dX12_hasGain_0 : decode cX12_hasGain 0 = .ok (.aload_n 0, 1) := by decide +kernel
theorem dX12_hasGain_1 : decode cX12_hasGain 1 = .ok (.getfield 83, 3) := by decide +kernel
theorem dX12_hasGain_4 : decode cX12_hasGain 4 = .ok (.bipush 11, 2) := by decide +kernel
theorem dX12_hasGain_6 : decode cX12_hasGain 6 = .ok (.iaload, 1) := by decide +kernel
theorem dX12_hasGain_7 : decode cX12_hasGain 7 = .ok (.ifCond .le 7, 3) := by decide +kernel
theorem dX12_hasGain_10 : decode cX12_hasGain 10 = .ok (.iconst 1, 1) := by decide +kernel
theorem dX12_hasGain_11 : decode cX12_hasGain 11 = .ok (.goto 4, 3) := by decide +kernel
theorem dX12_hasGain_14 : decode cX12_hasGain 14 = .ok (.iconst 0, 1) := by decide +kernel
theorem dX12_hasGain_15 : decode cX12_hasGain 15 = .ok (.ireturn, 1) := by decide +kernel
theorem dX12_rest_0 : decode cX12_rest 0 = .ok (.aload_n 0, 1) := by decide +kernel
theorem dX12_rest_1 : decode cX12_rest 1 = .ok (.iload_n 1, 1) := by decide +kernel
theorem dX12_rest_2 : decode cX12_rest 2 = .ok (.invokevirtual 178, 3) := by decide +kernel
theorem dX12_rest_5 : decode cX12_rest 5 = .ok (.ifCond .eq 10, 3) := by decide +kernel
theorem dX12_rest_8 : decode cX12_rest 8 = .ok (.aload_n 0, 1) := by decide +kernel
theorem dX12_rest_9 : decode cX12_rest 9 = .ok (.invokevirtual 365, 3) := by decide +kernel
theorem dX12_rest_12 : decode cX12_rest 12 = .ok (.ifCond .ne 7, 3) := by decide +kernel
theorem dX12_rest_15 : decode cX12_rest 15 = .ok (.iconst (-1), 1) := by decide +kernel
theorem dX12_rest_16 : decode cX12_rest 16 = .ok (.goto 16, 3) := by decide +kernel
theorem dX12_rest_19 : decode cX12_rest 19 = .ok (.aload_n 0, 1) := by decide +kernel
theorem dX12_rest_20 : decode cX12_rest 20 = .ok (.iload_n 1, 1) := by decide +kernel
theorem dX12_rest_21 : decode cX12_rest 21 = .ok (.invokevirtual 368, 3) := by decide +kernel
theorem dX12_rest_24 : decode cX12_rest 24 = .ok (.ifCond .eq 7, 3) := by decide +kernel
theorem dX12_rest_27 : decode cX12_rest 27 = .ok (.iconst 1, 1) := by decide +kernel
theorem dX12_rest_28 : decode cX12_rest 28 = .ok (.goto 4, 3) := by decide +kernel
theorem dX12_rest_31 : decode cX12_rest 31 = .ok (.iconst 0, 1) := by decide +kernel
theorem dX12_rest_32 : decode cX12_rest 32 = .ok (.ireturn, 1) := by decide +kernel
theorem dX12_rests_0 : decode cX12_rests 0 = .ok (.aload_n 0, 1) := by decide +kernel
theorem dX12_rests_1 : decode cX12_rests 1 = .ok (.invokevirtual 365, 3) := by decide +kernel
theorem dX12_rests_4 : decode cX12_rests 4 = .ok (.ifCond .eq 8, 3) := by decide +kernel
theorem dX12_rests_7 : decode cX12_rests 7 = .ok (.iload_n 1, 1) := by decide +kernel
theorem dX12_rests_8 : decode cX12_rests 8 = .ok (.iconst (-1), 1) := by decide +kernel
theorem dX12_rests_9 : decode cX12_rests 9 = .ok (.if_icmp .ge 5, 3) := by decide +kernel
theorem dX12_rests_12 : decode cX12_rests 12 = .ok (.iconst (-1), 1) := by decide +kernel
theorem dX12_rests_13 : decode cX12_rests 13 = .ok (.ireturn, 1) := by decide +kernel
theorem dX12_rests_14 : decode cX12_rests 14 = .ok (.iconst 0, 1) := by decide +kernel
theorem dX12_rests_15 : decode cX12_rests 15 = .ok (.istore_n 2, 1) := by decide +kernel
theorem dX12_rests_16 : decode cX12_rests 16 = .ok (.iconst 0, 1) := by decide +kernel
theorem dX12_rests_17 : decode cX12_rests 17 = .ok (.istore_n 3, 1) := by decide +kernel
theorem dX12_rests_18 : decode cX12_rests 18 = .ok (.iload_n 3, 1) := by decide +kernel
theorem dX12_rests_19 : decode cX12_rests 19 = .ok (.iconst 1, 1) := by decide +kernel
theorem dX12_rests_20 : decode cX12_rests 20 = .ok (.aload_n 0, 1) := by decide +kernel
theorem dX12_rests_21 : decode cX12_rests 21 = .ok (.getfield 165, 3) := by decide +kernel
theorem dX12_rests_24 : decode cX12_rests 24 = .ok (.ishl, 1) := by decide +kernel
theorem dX12_rests_25 : decode cX12_rests 25 = .ok (.if_icmp .ge 31, 3) := by decide +kernel
theorem dX12_rests_28 : decode cX12_rests 28 = .ok (.aload_n 0, 1) := by decide +kernel
theorem dX12_rests_29 : decode cX12_rests 29 = .ok (.iload_n 3, 1) := by decide +kernel
theorem dX12_rests_30 : decode cX12_rests 30 = .ok (.invokevirtual 368, 3) := by decide +kernel
theorem dX12_rests_33 : decode cX12_rests 33 = .ok (.ifCond .ne 6, 3) := by decide +kernel
theorem dX12_rests_36 : decode cX12_rests 36 = .ok (.goto 14, 3) := by decide +kernel
theorem dX12_rests_39 : decode cX12_rests 39 = .ok (.iload_n 2, 1) := by decide +kernel
theorem dX12_rests_40 : decode cX12_rests 40 = .ok (.iload_n 1, 1) := by decide +kernel
theorem dX12_rests_41 : decode cX12_rests 41 = .ok (.if_icmp .ne 5, 3) := by decide +kernel
theorem dX12_rests_44 : decode cX12_rests 44 = .ok (.iload_n 3, 1) := by decide +kernel
theorem dX12_rests_45 : decode cX12_rests 45 = .ok (.ireturn, 1) := by decide +kernel
theorem dX12_rests_46 : decode cX12_rests 46 = .ok (.iload_n 2, 1) := by decide +kernel
theorem dX12_rests_47 : decode cX12_rests 47 = .ok (.iconst 1, 1) := by decide +kernel
theorem dX12_rests_48 : decode cX12_rests 48 = .ok (.iadd, 1) := by decide +kernel
theorem dX12_rests_49 : decode cX12_rests 49 = .ok (.istore_n 2, 1) := by decide +kernel
theorem dX12_rests_50 : decode cX12_rests 50 = .ok (.iinc 3 1, 3) := by decide +kernel
theorem dX12_rests_53 : decode cX12_rests 53 = .ok (.goto (-35), 3) := by decide +kernel
theorem dX12_rests_56 : decode cX12_rests 56 = .ok (.iload_n 1, 1) := by decide +kernel
theorem dX12_rests_57 : decode cX12_rests 57 = .ok (.iconst (-1), 1) := by decide +kernel
theorem dX12_rests_58 : decode cX12_rests 58 = .ok (.if_icmp .ne 7, 3) := by decide +kernel
theorem dX12_rests_61 : decode cX12_rests 61 = .ok (.iload_n 2, 1) := by decide +kernel
theorem dX12_rests_62 : decode cX12_rests 62 = .ok (.goto 4, 3) := by decide +kernel
theorem dX12_rests_65 : decode cX12_rests 65 = .ok (.iconst (-1), 1) := by decide +kernel
theorem dX12_rests_66 : decode cX12_rests 66 = .ok (.ireturn, 1) := by decide +kernel
theorem dX12_end_0 : decode cX12_end 0 = .ok (.iload_n 1, 1) := by decide +kernel
theorem dX12_end_1 : decode cX12_end 1 = .ok (.istore_n 2, 1) := by decide +kernel
theorem dX12_end_2 : decode cX12_end 2 = .ok (.iconst 0, 1) := by decide +kernel
theorem dX12_end_3 : decode cX12_end 3 = .ok (.istore_n 3, 1) := by decide +kernel
theorem dX12_end_4 : decode cX12_end 4 = .ok (.iload_n 3, 1) := by decide +kernel
theorem dX12_end_5 : decode cX12_end 5 = .ok (.bipush 100, 2) := by decide +kernel
theorem dX12_end_7 : decode cX12_end 7 = .ok (.if_icmp .ge 60, 3) := by decide +kernel
theorem dX12_end_10 : decode cX12_end 10 = .ok (.iconst 0, 1) := by decide +kernel
theorem dX12_end_11 : decode cX12_end 11 = .ok (.istore 4, 2) := by decide +kernel
theorem dX12_end_13 : decode cX12_end 13 = .ok (.iconst 0, 1) := by decide +kernel
theorem dX12_end_14 : decode cX12_end 14 = .ok (.istore 5, 2) := by decide +kernel
theorem dX12_end_16 : decode cX12_end 16 = .ok (.iload 5, 2) := by decide +kernel
theorem dX12_end_18 : decode cX12_end 18 = .ok (.aload_n 0, 1) := by decide +kernel
theorem dX12_end_19 : decode cX12_end 19 = .ok (.getfield 165, 3) := by decide +kernel
theorem dX12_end_22 : decode cX12_end 22 = .ok (.if_icmp .ge 32, 3) := by decide +kernel
theorem dX12_end_25 : decode cX12_end 25 = .ok (.aload_n 0, 1) := by decide +kernel
theorem dX12_end_26 : decode cX12_end 26 = .ok (.iload 5, 2) := by decide +kernel
theorem dX12_end_28 : decode cX12_end 28 = .ok (.iload_n 2, 1) := by decide +kernel
theorem dX12_end_29 : decode cX12_end 29 = .ok (.invokevirtual 362, 3) := by decide +kernel
theorem dX12_end_32 : decode cX12_end 32 = .ok (.ifCond .ne 6, 3) := by decide +kernel
theorem dX12_end_35 : decode cX12_end 35 = .ok (.goto 13, 3) := by decide +kernel
theorem dX12_end_38 : decode cX12_end 38 = .ok (.iload_n 2, 1) := by decide +kernel
theorem dX12_end_39 : decode cX12_end 39 = .ok (.iconst 1, 1) := by decide +kernel
theorem dX12_end_40 : decode cX12_end 40 = .ok (.iload 5, 2) := by decide +kernel
theorem dX12_end_42 : decode cX12_end 42 = .ok (.ishl, 1) := by decide +kernel
theorem dX12_end_43 : decode cX12_end 43 = .ok (.ixor, 1) := by decide +kernel
theorem dX12_end_44 : decode cX12_end 44 = .ok (.istore_n 2, 1) := by decide +kernel
theorem dX12_end_45 : decode cX12_end 45 = .ok (.iconst 1, 1) := by decide +kernel
theorem dX12_end_46 : decode cX12_end 46 = .ok (.istore 4, 2) := by decide +kernel
theorem dX12_end_48 : decode cX12_end 48 = .ok (.iinc 5 1, 3) := by decide +kernel
theorem dX12_end_51 : decode cX12_end 51 = .ok (.goto (-35), 3) := by decide +kernel
theorem dX12_end_54 : decode cX12_end 54 = .ok (.iload 4, 2) := by decide +kernel
theorem dX12_end_56 : decode cX12_end 56 = .ok (.ifCond .ne 5, 3) := by decide +kernel
theorem dX12_end_59 : decode cX12_end 59 = .ok (.iload_n 2, 1) := by decide +kernel
theorem dX12_end_60 : decode cX12_end 60 = .ok (.ireturn, 1) := by decide +kernel
theorem dX12_end_61 : decode cX12_end 61 = .ok (.iinc 3 1, 3) := by decide +kernel
theorem dX12_end_64 : decode cX12_end 64 = .ok (.goto (-60), 3) := by decide +kernel
theorem dX12_end_67 : decode cX12_end 67 = .ok (.bipush (-2), 2) := by decide +kernel
theorem dX12_end_69 : decode cX12_end 69 = .ok (.ireturn, 1) := by decide +kernel
theorem dX12_goesTo_0 : decode cX12_goesTo 0 = .ok (.aload_n 0, 1) := by decide +kernel
theorem dX12_goesTo_1 : decode cX12_goesTo 1 = .ok (.iload_n 1, 1) := by decide +kernel
theorem dX12_goesTo_2 : decode cX12_goesTo 2 = .ok (.invokevirtual 178, 3) := by decide +kernel
theorem dX12_goesTo_5 : decode cX12_goesTo 5 = .ok (.ifCond .eq 10, 3) := by decide +kernel
theorem dX12_goesTo_8 : decode cX12_goesTo 8 = .ok (.aload_n 0, 1) := by decide +kernel
theorem dX12_goesTo_9 : decode cX12_goesTo 9 = .ok (.invokevirtual 365, 3) := by decide +kernel
theorem dX12_goesTo_12 : decode cX12_goesTo 12 = .ok (.ifCond .ne 7, 3) := by decide +kernel
theorem dX12_goesTo_15 : decode cX12_goesTo 15 = .ok (.iconst (-1), 1) := by decide +kernel
theorem dX12_goesTo_16 : decode cX12_goesTo 16 = .ok (.goto 8, 3) := by decide +kernel
theorem dX12_goesTo_19 : decode cX12_goesTo 19 = .ok (.aload_n 0, 1) := by decide +kernel
theorem dX12_goesTo_20 : decode cX12_goesTo 20 = .ok (.iload_n 1, 1) := by decide +kernel
theorem dX12_goesTo_21 : decode cX12_goesTo 21 = .ok (.invokevirtual 371, 3) := by decide +kernel
theorem dX12_goesTo_24 : decode cX12_goesTo 24 = .ok (.ireturn, 1) := by decide +kernel
theorem dX12_turned_0 : decode cX12_turned 0 = .ok (.aload_n 0, 1) := by decide +kernel
theorem dX12_turned_1 : decode cX12_turned 1 = .ok (.iload_n 1, 1) := by decide +kernel
theorem dX12_turned_2 : decode cX12_turned 2 = .ok (.invokevirtual 178, 3) := by decide +kernel
theorem dX12_turned_5 : decode cX12_turned 5 = .ok (.ifCond .eq 26, 3) := by decide +kernel
theorem dX12_turned_8 : decode cX12_turned 8 = .ok (.aload_n 0, 1) := by decide +kernel
theorem dX12_turned_9 : decode cX12_turned 9 = .ok (.iload_n 2, 1) := by decide +kernel
theorem dX12_turned_10 : decode cX12_turned 10 = .ok (.invokevirtual 178, 3) := by decide +kernel
theorem dX12_turned_13 : decode cX12_turned 13 = .ok (.ifCond .eq 18, 3) := by decide +kernel
theorem dX12_turned_16 : decode cX12_turned 16 = .ok (.aload_n 0, 1) := by decide +kernel
theorem dX12_turned_17 : decode cX12_turned 17 = .ok (.invokevirtual 365, 3) := by decide +kernel
theorem dX12_turned_20 : decode cX12_turned 20 = .ok (.ifCond .eq 11, 3) := by decide +kernel
theorem dX12_turned_23 : decode cX12_turned 23 = .ok (.aload_n 0, 1) := by decide +kernel
theorem dX12_turned_24 : decode cX12_turned 24 = .ok (.iload_n 2, 1) := by decide +kernel
theorem dX12_turned_25 : decode cX12_turned 25 = .ok (.invokevirtual 368, 3) := by decide +kernel
theorem dX12_turned_28 : decode cX12_turned 28 = .ok (.ifCond .ne 5, 3) := by decide +kernel
theorem dX12_turned_31 : decode cX12_turned 31 = .ok (.iconst (-1), 1) := by decide +kernel
theorem dX12_turned_32 : decode cX12_turned 32 = .ok (.ireturn, 1) := by decide +kernel
theorem dX12_turned_33 : decode cX12_turned 33 = .ok (.bipush (-2), 2) := by decide +kernel
theorem dX12_turned_35 : decode cX12_turned 35 = .ok (.istore_n 3, 1) := by decide +kernel
theorem dX12_turned_36 : decode cX12_turned 36 = .ok (.iconst 0, 1) := by decide +kernel
theorem dX12_turned_37 : decode cX12_turned 37 = .ok (.istore 4, 2) := by decide +kernel
theorem dX12_turned_39 : decode cX12_turned 39 = .ok (.iload 4, 2) := by decide +kernel
theorem dX12_turned_41 : decode cX12_turned 41 = .ok (.iconst 1, 1) := by decide +kernel
theorem dX12_turned_42 : decode cX12_turned 42 = .ok (.aload_n 0, 1) := by decide +kernel
theorem dX12_turned_43 : decode cX12_turned 43 = .ok (.getfield 165, 3) := by decide +kernel
theorem dX12_turned_46 : decode cX12_turned 46 = .ok (.ishl, 1) := by decide +kernel
theorem dX12_turned_47 : decode cX12_turned 47 = .ok (.if_icmp .ge 45, 3) := by decide +kernel
theorem dX12_turned_50 : decode cX12_turned 50 = .ok (.iload_n 3, 1) := by decide +kernel
theorem dX12_turned_51 : decode cX12_turned 51 = .ok (.bipush (-2), 2) := by decide +kernel
theorem dX12_turned_53 : decode cX12_turned 53 = .ok (.if_icmp .eq 18, 3) := by decide +kernel
theorem dX12_turned_56 : decode cX12_turned 56 = .ok (.iload 4, 2) := by decide +kernel
theorem dX12_turned_58 : decode cX12_turned 58 = .ok (.invokestatic 328, 3) := by decide +kernel
theorem dX12_turned_61 : decode cX12_turned 61 = .ok (.iload_n 3, 1) := by decide +kernel
theorem dX12_turned_62 : decode cX12_turned 62 = .ok (.invokestatic 328, 3) := by decide +kernel
theorem dX12_turned_65 : decode cX12_turned 65 = .ok (.if_icmp .lt 6, 3) := by decide +kernel
theorem dX12_turned_68 : decode cX12_turned 68 = .ok (.goto 18, 3) := by decide +kernel
theorem dX12_turned_71 : decode cX12_turned 71 = .ok (.aload_n 0, 1) := by decide +kernel
theorem dX12_turned_72 : decode cX12_turned 72 = .ok (.iload_n 1, 1) := by decide +kernel
theorem dX12_turned_73 : decode cX12_turned 73 = .ok (.iload 4, 2) := by decide +kernel
theorem dX12_turned_75 : decode cX12_turned 75 = .ok (.ixor, 1) := by decide +kernel
theorem dX12_turned_76 : decode cX12_turned 76 = .ok (.invokevirtual 371, 3) := by decide +kernel
theorem dX12_turned_79 : decode cX12_turned 79 = .ok (.iload_n 2, 1) := by decide +kernel
theorem dX12_turned_80 : decode cX12_turned 80 = .ok (.if_icmp .ne 6, 3) := by decide +kernel
theorem dX12_turned_83 : decode cX12_turned 83 = .ok (.iload 4, 2) := by decide +kernel
theorem dX12_turned_85 : decode cX12_turned 85 = .ok (.istore_n 3, 1) := by decide +kernel
theorem dX12_turned_86 : decode cX12_turned 86 = .ok (.iinc 4 1, 3) := by decide +kernel
theorem dX12_turned_89 : decode cX12_turned 89 = .ok (.goto (-50), 3) := by decide +kernel
theorem dX12_turned_92 : decode cX12_turned 92 = .ok (.iload_n 3, 1) := by decide +kernel
theorem dX12_turned_93 : decode cX12_turned 93 = .ok (.ireturn, 1) := by decide +kernel
theorem dX12_value_0 : decode cX12_value 0 = .ok (.iload_n 1, 1) := by decide +kernel
theorem dX12_value_1 : decode cX12_value 1 = .ok (.iconst 0, 1) := by decide +kernel
theorem dX12_value_2 : decode cX12_value 2 = .ok (.sipush 10000, 3) := by decide +kernel
theorem dX12_value_5 : decode cX12_value 5 = .ok (.invokestatic 174, 3) := by decide +kernel
theorem dX12_value_8 : decode cX12_value 8 = .ok (.ifCond .eq 12, 3) := by decide +kernel
theorem dX12_value_11 : decode cX12_value 11 = .ok (.aload_n 0, 1) := by decide +kernel
theorem dX12_value_12 : decode cX12_value 12 = .ok (.getfield 374, 3) := by decide +kernel
theorem dX12_value_15 : decode cX12_value 15 = .ok (.bipush 20, 2) := by decide +kernel
theorem dX12_value_17 : decode cX12_value 17 = .ok (.if_icmp .ne 5, 3) := by decide +kernel
theorem dX12_value_20 : decode cX12_value 20 = .ok (.iconst (-1), 1) := by decide +kernel
theorem dX12_value_21 : decode cX12_value 21 = .ok (.ireturn, 1) := by decide +kernel
theorem dX12_value_22 : decode cX12_value 22 = .ok (.aload_n 0, 1) := by decide +kernel
theorem dX12_value_23 : decode cX12_value 23 = .ok (.getfield 104, 3) := by decide +kernel
theorem dX12_value_26 : decode cX12_value 26 = .ok (.aload_n 0, 1) := by decide +kernel
theorem dX12_value_27 : decode cX12_value 27 = .ok (.getfield 374, 3) := by decide +kernel
theorem dX12_value_30 : decode cX12_value 30 = .ok (.iload_n 1, 1) := by decide +kernel
theorem dX12_value_31 : decode cX12_value 31 = .ok (.iastore, 1) := by decide +kernel
theorem dX12_value_32 : decode cX12_value 32 = .ok (.aload_n 0, 1) := by decide +kernel
theorem dX12_value_33 : decode cX12_value 33 = .ok (.aload_n 0, 1) := by decide +kernel
theorem dX12_value_34 : decode cX12_value 34 = .ok (.getfield 374, 3) := by decide +kernel
theorem dX12_value_37 : decode cX12_value 37 = .ok (.iconst 1, 1) := by decide +kernel
theorem dX12_value_38 : decode cX12_value 38 = .ok (.iadd, 1) := by decide +kernel
theorem dX12_value_39 : decode cX12_value 39 = .ok (.putfield 374, 3) := by decide +kernel
theorem dX12_value_42 : decode cX12_value 42 = .ok (.aload_n 0, 1) := by decide +kernel
theorem dX12_value_43 : decode cX12_value 43 = .ok (.getfield 374, 3) := by decide +kernel
theorem dX12_value_46 : decode cX12_value 46 = .ok (.ireturn, 1) := by decide +kernel
theorem dX12_whoPay_0 : decode cX12_whoPay 0 = .ok (.iconst 0, 1) := by decide +kernel
theorem dX12_whoPay_1 : decode cX12_whoPay 1 = .ok (.istore_n 2, 1) := by decide +kernel
theorem dX12_whoPay_2 : decode cX12_whoPay 2 = .ok (.iconst 0, 1) := by decide +kernel
theorem dX12_whoPay_3 : decode cX12_whoPay 3 = .ok (.istore_n 3, 1) := by decide +kernel
theorem dX12_whoPay_4 : decode cX12_whoPay 4 = .ok (.iload_n 3, 1) := by decide +kernel
theorem dX12_whoPay_5 : decode cX12_whoPay 5 = .ok (.aload_n 0, 1) := by decide +kernel
theorem dX12_whoPay_6 : decode cX12_whoPay 6 = .ok (.getfield 374, 3) := by decide +kernel
theorem dX12_whoPay_9 : decode cX12_whoPay 9 = .ok (.if_icmp .ge 27, 3) := by decide +kernel
theorem dX12_whoPay_12 : decode cX12_whoPay 12 = .ok (.iload_n 2, 1) := by decide +kernel
theorem dX12_whoPay_13 : decode cX12_whoPay 13 = .ok (.aload_n 0, 1) := by decide +kernel
theorem dX12_whoPay_14 : decode cX12_whoPay 14 = .ok (.getfield 104, 3) := by decide +kernel
theorem dX12_whoPay_17 : decode cX12_whoPay 17 = .ok (.iload_n 3, 1) := by decide +kernel
theorem dX12_whoPay_18 : decode cX12_whoPay 18 = .ok (.iaload, 1) := by decide +kernel
theorem dX12_whoPay_19 : decode cX12_whoPay 19 = .ok (.iload_n 1, 1) := by decide +kernel
theorem dX12_whoPay_20 : decode cX12_whoPay 20 = .ok (.if_icmp .lt 7, 3) := by decide +kernel
theorem dX12_whoPay_23 : decode cX12_whoPay 23 = .ok (.iconst 1, 1) := by decide +kernel
theorem dX12_whoPay_24 : decode cX12_whoPay 24 = .ok (.goto 4, 3) := by decide +kernel
theorem dX12_whoPay_27 : decode cX12_whoPay 27 = .ok (.iconst 0, 1) := by decide +kernel
theorem dX12_whoPay_28 : decode cX12_whoPay 28 = .ok (.iadd, 1) := by decide +kernel
theorem dX12_whoPay_29 : decode cX12_whoPay 29 = .ok (.istore_n 2, 1) := by decide +kernel
theorem dX12_whoPay_30 : decode cX12_whoPay 30 = .ok (.iinc 3 1, 3) := by decide +kernel
theorem dX12_whoPay_33 : decode cX12_whoPay 33 = .ok (.goto (-29), 3) := by decide +kernel
theorem dX12_whoPay_36 : decode cX12_whoPay 36 = .ok (.iload_n 2, 1) := by decide +kernel
theorem dX12_whoPay_37 : decode cX12_whoPay 37 = .ok (.ireturn, 1) := by decide +kernel
theorem dX12_bestPrice_0 : decode cX12_bestPrice 0 = .ok (.iconst 0, 1) := by decide +kernel
theorem dX12_bestPrice_1 : decode cX12_bestPrice 1 = .ok (.istore_n 2, 1) := by decide +kernel
theorem dX12_bestPrice_2 : decode cX12_bestPrice 2 = .ok (.iconst 0, 1) := by decide +kernel
theorem dX12_bestPrice_3 : decode cX12_bestPrice 3 = .ok (.istore_n 3, 1) := by decide +kernel
theorem dX12_bestPrice_4 : decode cX12_bestPrice 4 = .ok (.iconst 0, 1) := by decide +kernel
theorem dX12_bestPrice_5 : decode cX12_bestPrice 5 = .ok (.istore 4, 2) := by decide +kernel
theorem dX12_bestPrice_7 : decode cX12_bestPrice 7 = .ok (.iload 4, 2) := by decide +kernel
theorem dX12_bestPrice_9 : decode cX12_bestPrice 9 = .ok (.aload_n 0, 1) := by decide +kernel
theorem dX12_bestPrice_10 : decode cX12_bestPrice 10 = .ok (.getfield 374, 3) := by decide +kernel
theorem dX12_bestPrice_13 : decode cX12_bestPrice 13 = .ok (.if_icmp .ge 71, 3) := by decide +kernel
theorem dX12_bestPrice_16 : decode cX12_bestPrice 16 = .ok (.aload_n 0, 1) := by decide +kernel
theorem dX12_bestPrice_17 : decode cX12_bestPrice 17 = .ok (.getfield 104, 3) := by decide +kernel
theorem dX12_bestPrice_20 : decode cX12_bestPrice 20 = .ok (.iload 4, 2) := by decide +kernel
theorem dX12_bestPrice_22 : decode cX12_bestPrice 22 = .ok (.iaload, 1) := by decide +kernel
theorem dX12_bestPrice_23 : decode cX12_bestPrice 23 = .ok (.iload_n 1, 1) := by decide +kernel
theorem dX12_bestPrice_24 : decode cX12_bestPrice 24 = .ok (.isub, 1) := by decide +kernel
theorem dX12_bestPrice_25 : decode cX12_bestPrice 25 = .ok (.istore 5, 2) := by decide +kernel
theorem dX12_bestPrice_27 : decode cX12_bestPrice 27 = .ok (.iload 5, 2) := by decide +kernel
theorem dX12_bestPrice_29 : decode cX12_bestPrice 29 = .ok (.ifCond .gt 6, 3) := by decide +kernel
theorem dX12_bestPrice_32 : decode cX12_bestPrice 32 = .ok (.goto 46, 3) := by decide +kernel
theorem dX12_bestPrice_35 : decode cX12_bestPrice 35 = .ok (.iload 5, 2) := by decide +kernel
theorem dX12_bestPrice_37 : decode cX12_bestPrice 37 = .ok (.aload_n 0, 1) := by decide +kernel
theorem dX12_bestPrice_38 : decode cX12_bestPrice 38 = .ok (.aload_n 0, 1) := by decide +kernel
theorem dX12_bestPrice_39 : decode cX12_bestPrice 39 = .ok (.getfield 104, 3) := by decide +kernel
theorem dX12_bestPrice_42 : decode cX12_bestPrice 42 = .ok (.iload 4, 2) := by decide +kernel
theorem dX12_bestPrice_44 : decode cX12_bestPrice 44 = .ok (.iaload, 1) := by decide +kernel
theorem dX12_bestPrice_45 : decode cX12_bestPrice 45 = .ok (.invokevirtual 377, 3) := by decide +kernel
theorem dX12_bestPrice_48 : decode cX12_bestPrice 48 = .ok (.imul, 1) := by decide +kernel
theorem dX12_bestPrice_49 : decode cX12_bestPrice 49 = .ok (.istore 6, 2) := by decide +kernel
theorem dX12_bestPrice_51 : decode cX12_bestPrice 51 = .ok (.iload 6, 2) := by decide +kernel
theorem dX12_bestPrice_53 : decode cX12_bestPrice 53 = .ok (.iload_n 3, 1) := by decide +kernel
theorem dX12_bestPrice_54 : decode cX12_bestPrice 54 = .ok (.if_icmp .lt 24, 3) := by decide +kernel
theorem dX12_bestPrice_57 : decode cX12_bestPrice 57 = .ok (.iload 6, 2) := by decide +kernel
theorem dX12_bestPrice_59 : decode cX12_bestPrice 59 = .ok (.iload_n 3, 1) := by decide +kernel
theorem dX12_bestPrice_60 : decode cX12_bestPrice 60 = .ok (.if_icmp .ne 12, 3) := by decide +kernel
theorem dX12_bestPrice_63 : decode cX12_bestPrice 63 = .ok (.iload 5, 2) := by decide +kernel
theorem dX12_bestPrice_65 : decode cX12_bestPrice 65 = .ok (.iload_n 2, 1) := by decide +kernel
theorem dX12_bestPrice_66 : decode cX12_bestPrice 66 = .ok (.if_icmp .lt 6, 3) := by decide +kernel
theorem dX12_bestPrice_69 : decode cX12_bestPrice 69 = .ok (.goto 9, 3) := by decide +kernel
theorem dX12_bestPrice_72 : decode cX12_bestPrice 72 = .ok (.iload 5, 2) := by decide +kernel
theorem dX12_bestPrice_74 : decode cX12_bestPrice 74 = .ok (.istore_n 2, 1) := by decide +kernel
theorem dX12_bestPrice_75 : decode cX12_bestPrice 75 = .ok (.iload 6, 2) := by decide +kernel
theorem dX12_bestPrice_77 : decode cX12_bestPrice 77 = .ok (.istore_n 3, 1) := by decide +kernel
theorem dX12_bestPrice_78 : decode cX12_bestPrice 78 = .ok (.iinc 4 1, 3) := by decide +kernel
theorem dX12_bestPrice_81 : decode cX12_bestPrice 81 = .ok (.goto (-74), 3) := by decide +kernel
theorem dX12_bestPrice_84 : decode cX12_bestPrice 84 = .ok (.iload_n 2, 1) := by decide +kernel
theorem dX12_bestPrice_85 : decode cX12_bestPrice 85 = .ok (.ireturn, 1) := by decide +kernel
theorem dX12_one_0 : decode cX12_one 0 = .ok (.iload_n 1, 1) := by decide +kernel
theorem dX12_one_1 : decode cX12_one 1 = .ok (.iconst 0, 1) := by decide +kernel
theorem dX12_one_2 : decode cX12_one 2 = .ok (.iconst 1, 1) := by decide +kernel
theorem dX12_one_3 : decode cX12_one 3 = .ok (.invokestatic 174, 3) := by decide +kernel
theorem dX12_one_6 : decode cX12_one 6 = .ok (.ifCond .ne 5, 3) := by decide +kernel
theorem dX12_one_9 : decode cX12_one 9 = .ok (.iconst (-1), 1) := by decide +kernel
theorem dX12_one_10 : decode cX12_one 10 = .ok (.ireturn, 1) := by decide +kernel
theorem dX12_one_11 : decode cX12_one 11 = .ok (.aload_n 0, 1) := by decide +kernel
theorem dX12_one_12 : decode cX12_one 12 = .ok (.iconst 0, 1) := by decide +kernel
theorem dX12_one_13 : decode cX12_one 13 = .ok (.invokevirtual 380, 3) := by decide +kernel
theorem dX12_one_16 : decode cX12_one 16 = .ok (.istore_n 2, 1) := by decide +kernel
theorem dX12_one_17 : decode cX12_one 17 = .ok (.iload_n 1, 1) := by decide +kernel
theorem dX12_one_18 : decode cX12_one 18 = .ok (.ifCond .ne 7, 3) := by decide +kernel
theorem dX12_one_21 : decode cX12_one 21 = .ok (.iload_n 2, 1) := by decide +kernel
theorem dX12_one_22 : decode cX12_one 22 = .ok (.goto 10, 3) := by decide +kernel
theorem dX12_one_25 : decode cX12_one 25 = .ok (.iload_n 2, 1) := by decide +kernel
theorem dX12_one_26 : decode cX12_one 26 = .ok (.aload_n 0, 1) := by decide +kernel
theorem dX12_one_27 : decode cX12_one 27 = .ok (.iload_n 2, 1) := by decide +kernel
theorem dX12_one_28 : decode cX12_one 28 = .ok (.invokevirtual 377, 3) := by decide +kernel
theorem dX12_one_31 : decode cX12_one 31 = .ok (.imul, 1) := by decide +kernel
theorem dX12_one_32 : decode cX12_one 32 = .ok (.ireturn, 1) := by decide +kernel
theorem dX12_each_0 : decode cX12_each 0 = .ok (.iload_n 1, 1) := by decide +kernel
theorem dX12_each_1 : decode cX12_each 1 = .ok (.iconst 1, 1) := by decide +kernel
theorem dX12_each_2 : decode cX12_each 2 = .ok (.bipush 11, 2) := by decide +kernel
theorem dX12_each_4 : decode cX12_each 4 = .ok (.invokestatic 174, 3) := by decide +kernel
theorem dX12_each_7 : decode cX12_each 7 = .ok (.ifCond .eq 12, 3) := by decide +kernel
theorem dX12_each_10 : decode cX12_each 10 = .ok (.iload_n 2, 1) := by decide +kernel
theorem dX12_each_11 : decode cX12_each 11 = .ok (.iconst 0, 1) := by decide +kernel
theorem dX12_each_12 : decode cX12_each 12 = .ok (.iconst 1, 1) := by decide +kernel
theorem dX12_each_13 : decode cX12_each 13 = .ok (.invokestatic 174, 3) := by decide +kernel
theorem dX12_each_16 : decode cX12_each 16 = .ok (.ifCond .ne 5, 3) := by decide +kernel
theorem dX12_each_19 : decode cX12_each 19 = .ok (.iconst (-1), 1) := by decide +kernel
theorem dX12_each_20 : decode cX12_each 20 = .ok (.ireturn, 1) := by decide +kernel
theorem dX12_each_21 : decode cX12_each 21 = .ok (.iconst 0, 1) := by decide +kernel
theorem dX12_each_22 : decode cX12_each 22 = .ok (.istore_n 3, 1) := by decide +kernel
theorem dX12_each_23 : decode cX12_each 23 = .ok (.iconst 0, 1) := by decide +kernel
theorem dX12_each_24 : decode cX12_each 24 = .ok (.istore 4, 2) := by decide +kernel
theorem dX12_each_26 : decode cX12_each 26 = .ok (.iload 4, 2) := by decide +kernel
theorem dX12_each_28 : decode cX12_each 28 = .ok (.iload_n 1, 1) := by decide +kernel
theorem dX12_each_29 : decode cX12_each 29 = .ok (.if_icmp .ge 17, 3) := by decide +kernel
theorem dX12_each_32 : decode cX12_each 32 = .ok (.aload_n 0, 1) := by decide +kernel
theorem dX12_each_33 : decode cX12_each 33 = .ok (.getfield 125, 3) := by decide +kernel
theorem dX12_each_36 : decode cX12_each 36 = .ok (.iload 4, 2) := by decide +kernel
theorem dX12_each_38 : decode cX12_each 38 = .ok (.iconst 0, 1) := by decide +kernel
theorem dX12_each_39 : decode cX12_each 39 = .ok (.iastore, 1) := by decide +kernel
theorem dX12_each_40 : decode cX12_each 40 = .ok (.iinc 4 1, 3) := by decide +kernel
theorem dX12_each_43 : decode cX12_each 43 = .ok (.goto (-17), 3) := by decide +kernel
theorem dX12_each_46 : decode cX12_each 46 = .ok (.iconst 0, 1) := by decide +kernel
theorem dX12_each_47 : decode cX12_each 47 = .ok (.istore 4, 2) := by decide +kernel
theorem dX12_each_49 : decode cX12_each 49 = .ok (.iload 4, 2) := by decide +kernel
theorem dX12_each_51 : decode cX12_each 51 = .ok (.bipush 100, 2) := by decide +kernel
theorem dX12_each_53 : decode cX12_each 53 = .ok (.if_icmp .ge 109, 3) := by decide +kernel
theorem dX12_each_56 : decode cX12_each 56 = .ok (.iconst 0, 1) := by decide +kernel
theorem dX12_each_57 : decode cX12_each 57 = .ok (.istore 5, 2) := by decide +kernel
theorem dX12_each_59 : decode cX12_each 59 = .ok (.iconst 0, 1) := by decide +kernel
theorem dX12_each_60 : decode cX12_each 60 = .ok (.istore 6, 2) := by decide +kernel
theorem dX12_each_62 : decode cX12_each 62 = .ok (.iload 6, 2) := by decide +kernel
theorem dX12_each_64 : decode cX12_each 64 = .ok (.iload_n 1, 1) := by decide +kernel
theorem dX12_each_65 : decode cX12_each 65 = .ok (.if_icmp .ge 70, 3) := by decide +kernel
theorem dX12_each_68 : decode cX12_each 68 = .ok (.aload_n 0, 1) := by decide +kernel
theorem dX12_each_69 : decode cX12_each 69 = .ok (.iload_n 3, 1) := by decide +kernel
theorem dX12_each_70 : decode cX12_each 70 = .ok (.aload_n 0, 1) := by decide +kernel
theorem dX12_each_71 : decode cX12_each 71 = .ok (.getfield 125, 3) := by decide +kernel
theorem dX12_each_74 : decode cX12_each 74 = .ok (.iload 6, 2) := by decide +kernel
theorem dX12_each_76 : decode cX12_each 76 = .ok (.iaload, 1) := by decide +kernel
theorem dX12_each_77 : decode cX12_each 77 = .ok (.isub, 1) := by decide +kernel
theorem dX12_each_78 : decode cX12_each 78 = .ok (.invokevirtual 380, 3) := by decide +kernel
theorem dX12_each_81 : decode cX12_each 81 = .ok (.istore 7, 2) := by decide +kernel
theorem dX12_each_83 : decode cX12_each 83 = .ok (.iload 5, 2) := by decide +kernel
theorem dX12_each_85 : decode cX12_each 85 = .ok (.ifCond .ne 15, 3) := by decide +kernel
theorem dX12_each_88 : decode cX12_each 88 = .ok (.iload 7, 2) := by decide +kernel
theorem dX12_each_90 : decode cX12_each 90 = .ok (.aload_n 0, 1) := by decide +kernel
theorem dX12_each_91 : decode cX12_each 91 = .ok (.getfield 125, 3) := by decide +kernel
theorem dX12_each_94 : decode cX12_each 94 = .ok (.iload 6, 2) := by decide +kernel
theorem dX12_each_96 : decode cX12_each 96 = .ok (.iaload, 1) := by decide +kernel
theorem dX12_each_97 : decode cX12_each 97 = .ok (.if_icmp .eq 7, 3) := by decide +kernel
theorem dX12_each_100 : decode cX12_each 100 = .ok (.iconst 1, 1) := by decide +kernel
theorem dX12_each_101 : decode cX12_each 101 = .ok (.goto 4, 3) := by decide +kernel
theorem dX12_each_104 : decode cX12_each 104 = .ok (.iconst 0, 1) := by decide +kernel
theorem dX12_each_105 : decode cX12_each 105 = .ok (.istore 5, 2) := by decide +kernel
theorem dX12_each_107 : decode cX12_each 107 = .ok (.iload_n 3, 1) := by decide +kernel
theorem dX12_each_108 : decode cX12_each 108 = .ok (.aload_n 0, 1) := by decide +kernel
theorem dX12_each_109 : decode cX12_each 109 = .ok (.getfield 125, 3) := by decide +kernel
theorem dX12_each_112 : decode cX12_each 112 = .ok (.iload 6, 2) := by decide +kernel
theorem dX12_each_114 : decode cX12_each 114 = .ok (.iaload, 1) := by decide +kernel
theorem dX12_each_115 : decode cX12_each 115 = .ok (.isub, 1) := by decide +kernel
theorem dX12_each_116 : decode cX12_each 116 = .ok (.iload 7, 2) := by decide +kernel
theorem dX12_each_118 : decode cX12_each 118 = .ok (.iadd, 1) := by decide +kernel
theorem dX12_each_119 : decode cX12_each 119 = .ok (.istore_n 3, 1) := by decide +kernel
theorem dX12_each_120 : decode cX12_each 120 = .ok (.aload_n 0, 1) := by decide +kernel
theorem dX12_each_121 : decode cX12_each 121 = .ok (.getfield 125, 3) := by decide +kernel
theorem dX12_each_124 : decode cX12_each 124 = .ok (.iload 6, 2) := by decide +kernel
theorem dX12_each_126 : decode cX12_each 126 = .ok (.iload 7, 2) := by decide +kernel
theorem dX12_each_128 : decode cX12_each 128 = .ok (.iastore, 1) := by decide +kernel
theorem dX12_each_129 : decode cX12_each 129 = .ok (.iinc 6 1, 3) := by decide +kernel
theorem dX12_each_132 : decode cX12_each 132 = .ok (.goto (-70), 3) := by decide +kernel
theorem dX12_each_135 : decode cX12_each 135 = .ok (.iload 5, 2) := by decide +kernel
theorem dX12_each_137 : decode cX12_each 137 = .ok (.ifCond .ne 19, 3) := by decide +kernel
theorem dX12_each_140 : decode cX12_each 140 = .ok (.iload_n 2, 1) := by decide +kernel
theorem dX12_each_141 : decode cX12_each 141 = .ok (.ifCond .ne 7, 3) := by decide +kernel
theorem dX12_each_144 : decode cX12_each 144 = .ok (.iload_n 3, 1) := by decide +kernel
theorem dX12_each_145 : decode cX12_each 145 = .ok (.goto 10, 3) := by decide +kernel
theorem dX12_each_148 : decode cX12_each 148 = .ok (.iload_n 3, 1) := by decide +kernel
theorem dX12_each_149 : decode cX12_each 149 = .ok (.aload_n 0, 1) := by decide +kernel
theorem dX12_each_150 : decode cX12_each 150 = .ok (.iload_n 3, 1) := by decide +kernel
theorem dX12_each_151 : decode cX12_each 151 = .ok (.invokevirtual 377, 3) := by decide +kernel
theorem dX12_each_154 : decode cX12_each 154 = .ok (.imul, 1) := by decide +kernel
theorem dX12_each_155 : decode cX12_each 155 = .ok (.ireturn, 1) := by decide +kernel
theorem dX12_each_156 : decode cX12_each 156 = .ok (.iinc 4 1, 3) := by decide +kernel
theorem dX12_each_159 : decode cX12_each 159 = .ok (.goto (-110), 3) := by decide +kernel
theorem dX12_each_162 : decode cX12_each 162 = .ok (.bipush (-2), 2) := by decide +kernel
theorem dX12_each_164 : decode cX12_each 164 = .ok (.ireturn, 1) := by decide +kernel
theorem dX12_broughtBy_0 : decode cX12_broughtBy 0 = .ok (.iconst 0, 1) := by decide +kernel
theorem dX12_broughtBy_1 : decode cX12_broughtBy 1 = .ok (.istore_n 3, 1) := by decide +kernel
theorem dX12_broughtBy_2 : decode cX12_broughtBy 2 = .ok (.iconst 0, 1) := by decide +kernel
theorem dX12_broughtBy_3 : decode cX12_broughtBy 3 = .ok (.istore 4, 2) := by decide +kernel
theorem dX12_broughtBy_5 : decode cX12_broughtBy 5 = .ok (.iload 4, 2) := by decide +kernel
theorem dX12_broughtBy_7 : decode cX12_broughtBy 7 = .ok (.aload_n 0, 1) := by decide +kernel
theorem dX12_broughtBy_8 : decode cX12_broughtBy 8 = .ok (.getfield 171, 3) := by decide +kernel
theorem dX12_broughtBy_11 : decode cX12_broughtBy 11 = .ok (.if_icmp .ge 62, 3) := by decide +kernel
theorem dX12_broughtBy_14 : decode cX12_broughtBy 14 = .ok (.aload_n 0, 1) := by decide +kernel
theorem dX12_broughtBy_15 : decode cX12_broughtBy 15 = .ok (.getfield 40, 3) := by decide +kernel
theorem dX12_broughtBy_18 : decode cX12_broughtBy 18 = .ok (.iload 4, 2) := by decide +kernel
theorem dX12_broughtBy_20 : decode cX12_broughtBy 20 = .ok (.iaload, 1) := by decide +kernel
theorem dX12_broughtBy_21 : decode cX12_broughtBy 21 = .ok (.iload_n 1, 1) := by decide +kernel
theorem dX12_broughtBy_22 : decode cX12_broughtBy 22 = .ok (.if_icmp .ne 45, 3) := by decide +kernel
theorem dX12_broughtBy_25 : decode cX12_broughtBy 25 = .ok (.aload_n 0, 1) := by decide +kernel
theorem dX12_broughtBy_26 : decode cX12_broughtBy 26 = .ok (.getfield 28, 3) := by decide +kernel
theorem dX12_broughtBy_29 : decode cX12_broughtBy 29 = .ok (.iload 4, 2) := by decide +kernel
theorem dX12_broughtBy_31 : decode cX12_broughtBy 31 = .ok (.iaload, 1) := by decide +kernel
theorem dX12_broughtBy_32 : decode cX12_broughtBy 32 = .ok (.iconst 1, 1) := by decide +kernel
theorem dX12_broughtBy_33 : decode cX12_broughtBy 33 = .ok (.if_icmp .ne 34, 3) := by decide +kernel
theorem dX12_broughtBy_36 : decode cX12_broughtBy 36 = .ok (.aload_n 0, 1) := by decide +kernel
theorem dX12_broughtBy_37 : decode cX12_broughtBy 37 = .ok (.getfield 43, 3) := by decide +kernel
theorem dX12_broughtBy_40 : decode cX12_broughtBy 40 = .ok (.iload 4, 2) := by decide +kernel
theorem dX12_broughtBy_42 : decode cX12_broughtBy 42 = .ok (.iaload, 1) := by decide +kernel
theorem dX12_broughtBy_43 : decode cX12_broughtBy 43 = .ok (.aload_n 0, 1) := by decide +kernel
theorem dX12_broughtBy_44 : decode cX12_broughtBy 44 = .ok (.getfield 34, 3) := by decide +kernel
theorem dX12_broughtBy_47 : decode cX12_broughtBy 47 = .ok (.iload 4, 2) := by decide +kernel
theorem dX12_broughtBy_49 : decode cX12_broughtBy 49 = .ok (.iaload, 1) := by decide +kernel
theorem dX12_broughtBy_50 : decode cX12_broughtBy 50 = .ok (.iload_n 2, 1) := by decide +kernel
theorem dX12_broughtBy_51 : decode cX12_broughtBy 51 = .ok (.imul, 1) := by decide +kernel
theorem dX12_broughtBy_52 : decode cX12_broughtBy 52 = .ok (.if_icmp .lt 15, 3) := by decide +kernel
theorem dX12_broughtBy_55 : decode cX12_broughtBy 55 = .ok (.iload_n 3, 1) := by decide +kernel
theorem dX12_broughtBy_56 : decode cX12_broughtBy 56 = .ok (.aload_n 0, 1) := by decide +kernel
theorem dX12_broughtBy_57 : decode cX12_broughtBy 57 = .ok (.getfield 34, 3) := by decide +kernel
theorem dX12_broughtBy_60 : decode cX12_broughtBy 60 = .ok (.iload 4, 2) := by decide +kernel
theorem dX12_broughtBy_62 : decode cX12_broughtBy 62 = .ok (.iaload, 1) := by decide +kernel
theorem dX12_broughtBy_63 : decode cX12_broughtBy 63 = .ok (.iload_n 2, 1) := by decide +kernel
theorem dX12_broughtBy_64 : decode cX12_broughtBy 64 = .ok (.imul, 1) := by decide +kernel
theorem dX12_broughtBy_65 : decode cX12_broughtBy 65 = .ok (.iadd, 1) := by decide +kernel
theorem dX12_broughtBy_66 : decode cX12_broughtBy 66 = .ok (.istore_n 3, 1) := by decide +kernel
theorem dX12_broughtBy_67 : decode cX12_broughtBy 67 = .ok (.iinc 4 1, 3) := by decide +kernel
theorem dX12_broughtBy_70 : decode cX12_broughtBy 70 = .ok (.goto (-65), 3) := by decide +kernel
theorem dX12_broughtBy_73 : decode cX12_broughtBy 73 = .ok (.iload_n 3, 1) := by decide +kernel
theorem dX12_broughtBy_74 : decode cX12_broughtBy 74 = .ok (.ireturn, 1) := by decide +kernel
theorem dX12_made_0 : decode cX12_made 0 = .ok (.aload_n 0, 1) := by decide +kernel
theorem dX12_made_1 : decode cX12_made 1 = .ok (.iload_n 1, 1) := by decide +kernel
theorem dX12_made_2 : decode cX12_made 2 = .ok (.invokevirtual 383, 3) := by decide +kernel
theorem dX12_made_5 : decode cX12_made 5 = .ok (.ifCond .eq 12, 3) := by decide +kernel
theorem dX12_made_8 : decode cX12_made 8 = .ok (.iload_n 2, 1) := by decide +kernel
theorem dX12_made_9 : decode cX12_made 9 = .ok (.iconst 0, 1) := by decide +kernel
theorem dX12_made_10 : decode cX12_made 10 = .ok (.iconst 1, 1) := by decide +kernel
theorem dX12_made_11 : decode cX12_made 11 = .ok (.invokestatic 174, 3) := by decide +kernel
theorem dX12_made_14 : decode cX12_made 14 = .ok (.ifCond .ne 5, 3) := by decide +kernel
theorem dX12_made_17 : decode cX12_made 17 = .ok (.iconst (-1), 1) := by decide +kernel
theorem dX12_made_18 : decode cX12_made 18 = .ok (.ireturn, 1) := by decide +kernel
theorem dX12_made_19 : decode cX12_made 19 = .ok (.iconst 0, 1) := by decide +kernel
theorem dX12_made_20 : decode cX12_made 20 = .ok (.istore_n 3, 1) := by decide +kernel
theorem dX12_made_21 : decode cX12_made 21 = .ok (.iconst 1, 1) := by decide +kernel
theorem dX12_made_22 : decode cX12_made 22 = .ok (.istore 4, 2) := by decide +kernel
theorem dX12_made_24 : decode cX12_made 24 = .ok (.iload 4, 2) := by decide +kernel
theorem dX12_made_26 : decode cX12_made 26 = .ok (.bipush 24, 2) := by decide +kernel
theorem dX12_made_28 : decode cX12_made 28 = .ok (.if_icmp .gt 32, 3) := by decide +kernel
theorem dX12_made_31 : decode cX12_made 31 = .ok (.aload_n 0, 1) := by decide +kernel
theorem dX12_made_32 : decode cX12_made 32 = .ok (.iload_n 1, 1) := by decide +kernel
theorem dX12_made_33 : decode cX12_made 33 = .ok (.iload 4, 2) := by decide +kernel
theorem dX12_made_35 : decode cX12_made 35 = .ok (.invokevirtual 386, 3) := by decide +kernel
theorem dX12_made_38 : decode cX12_made 38 = .ok (.aload_n 0, 1) := by decide +kernel
theorem dX12_made_39 : decode cX12_made 39 = .ok (.iload_n 1, 1) := by decide +kernel
theorem dX12_made_40 : decode cX12_made 40 = .ok (.iload_n 3, 1) := by decide +kernel
theorem dX12_made_41 : decode cX12_made 41 = .ok (.invokevirtual 386, 3) := by decide +kernel
theorem dX12_made_44 : decode cX12_made 44 = .ok (.if_icmp .le 8, 3) := by decide +kernel
theorem dX12_made_47 : decode cX12_made 47 = .ok (.iload 4, 2) := by decide +kernel
theorem dX12_made_49 : decode cX12_made 49 = .ok (.goto 4, 3) := by decide +kernel
theorem dX12_made_52 : decode cX12_made 52 = .ok (.iload_n 3, 1) := by decide +kernel
theorem dX12_made_53 : decode cX12_made 53 = .ok (.istore_n 3, 1) := by decide +kernel
theorem dX12_made_54 : decode cX12_made 54 = .ok (.iinc 4 1, 3) := by decide +kernel
theorem dX12_made_57 : decode cX12_made 57 = .ok (.goto (-33), 3) := by decide +kernel
theorem dX12_made_60 : decode cX12_made 60 = .ok (.iload_n 2, 1) := by decide +kernel
theorem dX12_made_61 : decode cX12_made 61 = .ok (.ifCond .ne 7, 3) := by decide +kernel
theorem dX12_made_64 : decode cX12_made 64 = .ok (.iload_n 3, 1) := by decide +kernel
theorem dX12_made_65 : decode cX12_made 65 = .ok (.goto 9, 3) := by decide +kernel
theorem dX12_made_68 : decode cX12_made 68 = .ok (.aload_n 0, 1) := by decide +kernel
theorem dX12_made_69 : decode cX12_made 69 = .ok (.iload_n 1, 1) := by decide +kernel
theorem dX12_made_70 : decode cX12_made 70 = .ok (.iload_n 3, 1) := by decide +kernel
theorem dX12_made_71 : decode cX12_made 71 = .ok (.invokevirtual 386, 3) := by decide +kernel
theorem dX12_made_74 : decode cX12_made 74 = .ok (.ireturn, 1) := by decide +kernel
theorem dX12_entry_0 : decode cX12_entry 0 = .ok (.aload_n 0, 1) := by decide +kernel
theorem dX12_entry_1 : decode cX12_entry 1 = .ok (.iload_n 1, 1) := by decide +kernel
theorem dX12_entry_2 : decode cX12_entry 2 = .ok (.invokevirtual 383, 3) := by decide +kernel
theorem dX12_entry_5 : decode cX12_entry 5 = .ok (.ifCond .eq 23, 3) := by decide +kernel
theorem dX12_entry_8 : decode cX12_entry 8 = .ok (.iload_n 2, 1) := by decide +kernel
theorem dX12_entry_9 : decode cX12_entry 9 = .ok (.iconst 0, 1) := by decide +kernel
theorem dX12_entry_10 : decode cX12_entry 10 = .ok (.sipush 10000, 3) := by decide +kernel
theorem dX12_entry_13 : decode cX12_entry 13 = .ok (.invokestatic 174, 3) := by decide +kernel
theorem dX12_entry_16 : decode cX12_entry 16 = .ok (.ifCond .eq 12, 3) := by decide +kernel
theorem dX12_entry_19 : decode cX12_entry 19 = .ok (.aload_n 0, 1) := by decide +kernel
theorem dX12_entry_20 : decode cX12_entry 20 = .ok (.getfield 389, 3) := by decide +kernel
theorem dX12_entry_23 : decode cX12_entry 23 = .ok (.bipush 60, 2) := by decide +kernel
theorem dX12_entry_25 : decode cX12_entry 25 = .ok (.if_icmp .ne 5, 3) := by decide +kernel
theorem dX12_entry_28 : decode cX12_entry 28 = .ok (.iconst (-1), 1) := by decide +kernel
theorem dX12_entry_29 : decode cX12_entry 29 = .ok (.ireturn, 1) := by decide +kernel
theorem dX12_entry_30 : decode cX12_entry 30 = .ok (.aload_n 0, 1) := by decide +kernel
theorem dX12_entry_31 : decode cX12_entry 31 = .ok (.getfield 107, 3) := by decide +kernel
theorem dX12_entry_34 : decode cX12_entry 34 = .ok (.aload_n 0, 1) := by decide +kernel
theorem dX12_entry_35 : decode cX12_entry 35 = .ok (.getfield 389, 3) := by decide +kernel
theorem dX12_entry_38 : decode cX12_entry 38 = .ok (.iload_n 1, 1) := by decide +kernel
theorem dX12_entry_39 : decode cX12_entry 39 = .ok (.iastore, 1) := by decide +kernel
theorem dX12_entry_40 : decode cX12_entry 40 = .ok (.aload_n 0, 1) := by decide +kernel
theorem dX12_entry_41 : decode cX12_entry 41 = .ok (.getfield 110, 3) := by decide +kernel
theorem dX12_entry_44 : decode cX12_entry 44 = .ok (.aload_n 0, 1) := by decide +kernel
theorem dX12_entry_45 : decode cX12_entry 45 = .ok (.getfield 389, 3) := by decide +kernel
theorem dX12_entry_48 : decode cX12_entry 48 = .ok (.iload_n 2, 1) := by decide +kernel
theorem dX12_entry_49 : decode cX12_entry 49 = .ok (.iastore, 1) := by decide +kernel
theorem dX12_entry_50 : decode cX12_entry 50 = .ok (.aload_n 0, 1) := by decide +kernel
theorem dX12_entry_51 : decode cX12_entry 51 = .ok (.aload_n 0, 1) := by decide +kernel
theorem dX12_entry_52 : decode cX12_entry 52 = .ok (.getfield 389, 3) := by decide +kernel
theorem dX12_entry_55 : decode cX12_entry 55 = .ok (.iconst 1, 1) := by decide +kernel
theorem dX12_entry_56 : decode cX12_entry 56 = .ok (.iadd, 1) := by decide +kernel
theorem dX12_entry_57 : decode cX12_entry 57 = .ok (.putfield 389, 3) := by decide +kernel
theorem dX12_entry_60 : decode cX12_entry 60 = .ok (.aload_n 0, 1) := by decide +kernel
theorem dX12_entry_61 : decode cX12_entry 61 = .ok (.getfield 389, 3) := by decide +kernel
theorem dX12_entry_64 : decode cX12_entry 64 = .ok (.ireturn, 1) := by decide +kernel
theorem dX12_sumAt_0 : decode cX12_sumAt 0 = .ok (.iconst 0, 1) := by decide +kernel
theorem dX12_sumAt_1 : decode cX12_sumAt 1 = .ok (.istore_n 3, 1) := by decide +kernel
theorem dX12_sumAt_2 : decode cX12_sumAt 2 = .ok (.iload_n 3, 1) := by decide +kernel
theorem dX12_sumAt_3 : decode cX12_sumAt 3 = .ok (.aload_n 0, 1) := by decide +kernel
theorem dX12_sumAt_4 : decode cX12_sumAt 4 = .ok (.getfield 389, 3) := by decide +kernel
theorem dX12_sumAt_7 : decode cX12_sumAt 7 = .ok (.if_icmp .ge 115, 3) := by decide +kernel
theorem dX12_sumAt_10 : decode cX12_sumAt 10 = .ok (.aload_n 0, 1) := by decide +kernel
theorem dX12_sumAt_11 : decode cX12_sumAt 11 = .ok (.getfield 107, 3) := by decide +kernel
theorem dX12_sumAt_14 : decode cX12_sumAt 14 = .ok (.iload_n 3, 1) := by decide +kernel
theorem dX12_sumAt_15 : decode cX12_sumAt 15 = .ok (.iaload, 1) := by decide +kernel
theorem dX12_sumAt_16 : decode cX12_sumAt 16 = .ok (.iload_n 1, 1) := by decide +kernel
theorem dX12_sumAt_17 : decode cX12_sumAt 17 = .ok (.if_icmp .eq 6, 3) := by decide +kernel
theorem dX12_sumAt_20 : decode cX12_sumAt 20 = .ok (.goto 96, 3) := by decide +kernel
theorem dX12_sumAt_23 : decode cX12_sumAt 23 = .ok (.iconst 0, 1) := by decide +kernel
theorem dX12_sumAt_24 : decode cX12_sumAt 24 = .ok (.istore 4, 2) := by decide +kernel
theorem dX12_sumAt_26 : decode cX12_sumAt 26 = .ok (.iconst 0, 1) := by decide +kernel
theorem dX12_sumAt_27 : decode cX12_sumAt 27 = .ok (.istore 5, 2) := by decide +kernel
theorem dX12_sumAt_29 : decode cX12_sumAt 29 = .ok (.iload 5, 2) := by decide +kernel
theorem dX12_sumAt_31 : decode cX12_sumAt 31 = .ok (.aload_n 0, 1) := by decide +kernel
theorem dX12_sumAt_32 : decode cX12_sumAt 32 = .ok (.getfield 389, 3) := by decide +kernel
theorem dX12_sumAt_35 : decode cX12_sumAt 35 = .ok (.if_icmp .ge 68, 3) := by decide +kernel
theorem dX12_sumAt_38 : decode cX12_sumAt 38 = .ok (.iload 4, 2) := by decide +kernel
theorem dX12_sumAt_40 : decode cX12_sumAt 40 = .ok (.aload_n 0, 1) := by decide +kernel
theorem dX12_sumAt_41 : decode cX12_sumAt 41 = .ok (.getfield 107, 3) := by decide +kernel
theorem dX12_sumAt_44 : decode cX12_sumAt 44 = .ok (.iload 5, 2) := by decide +kernel
theorem dX12_sumAt_46 : decode cX12_sumAt 46 = .ok (.iaload, 1) := by decide +kernel
theorem dX12_sumAt_47 : decode cX12_sumAt 47 = .ok (.iload_n 1, 1) := by decide +kernel
theorem dX12_sumAt_48 : decode cX12_sumAt 48 = .ok (.if_icmp .ne 45, 3) := by decide +kernel
theorem dX12_sumAt_51 : decode cX12_sumAt 51 = .ok (.aload_n 0, 1) := by decide +kernel
theorem dX12_sumAt_52 : decode cX12_sumAt 52 = .ok (.getfield 110, 3) := by decide +kernel
theorem dX12_sumAt_55 : decode cX12_sumAt 55 = .ok (.iload 5, 2) := by decide +kernel
theorem dX12_sumAt_57 : decode cX12_sumAt 57 = .ok (.iaload, 1) := by decide +kernel
theorem dX12_sumAt_58 : decode cX12_sumAt 58 = .ok (.aload_n 0, 1) := by decide +kernel
theorem dX12_sumAt_59 : decode cX12_sumAt 59 = .ok (.getfield 110, 3) := by decide +kernel
theorem dX12_sumAt_62 : decode cX12_sumAt 62 = .ok (.iload_n 3, 1) := by decide +kernel
theorem dX12_sumAt_63 : decode cX12_sumAt 63 = .ok (.iaload, 1) := by decide +kernel
theorem dX12_sumAt_64 : decode cX12_sumAt 64 = .ok (.if_icmp .lt 25, 3) := by decide +kernel
theorem dX12_sumAt_67 : decode cX12_sumAt 67 = .ok (.aload_n 0, 1) := by decide +kernel
theorem dX12_sumAt_68 : decode cX12_sumAt 68 = .ok (.getfield 110, 3) := by decide +kernel
theorem dX12_sumAt_71 : decode cX12_sumAt 71 = .ok (.iload 5, 2) := by decide +kernel
theorem dX12_sumAt_73 : decode cX12_sumAt 73 = .ok (.iaload, 1) := by decide +kernel
theorem dX12_sumAt_74 : decode cX12_sumAt 74 = .ok (.aload_n 0, 1) := by decide +kernel
theorem dX12_sumAt_75 : decode cX12_sumAt 75 = .ok (.getfield 110, 3) := by decide +kernel
theorem dX12_sumAt_78 : decode cX12_sumAt 78 = .ok (.iload_n 3, 1) := by decide +kernel
theorem dX12_sumAt_79 : decode cX12_sumAt 79 = .ok (.iaload, 1) := by decide +kernel
theorem dX12_sumAt_80 : decode cX12_sumAt 80 = .ok (.if_icmp .ne 13, 3) := by decide +kernel
theorem dX12_sumAt_83 : decode cX12_sumAt 83 = .ok (.iload 5, 2) := by decide +kernel
theorem dX12_sumAt_85 : decode cX12_sumAt 85 = .ok (.iload_n 3, 1) := by decide +kernel
theorem dX12_sumAt_86 : decode cX12_sumAt 86 = .ok (.if_icmp .ge 7, 3) := by decide +kernel
theorem dX12_sumAt_89 : decode cX12_sumAt 89 = .ok (.iconst 1, 1) := by decide +kernel
theorem dX12_sumAt_90 : decode cX12_sumAt 90 = .ok (.goto 4, 3) := by decide +kernel
theorem dX12_sumAt_93 : decode cX12_sumAt 93 = .ok (.iconst 0, 1) := by decide +kernel
theorem dX12_sumAt_94 : decode cX12_sumAt 94 = .ok (.iadd, 1) := by decide +kernel
theorem dX12_sumAt_95 : decode cX12_sumAt 95 = .ok (.istore 4, 2) := by decide +kernel
theorem dX12_sumAt_97 : decode cX12_sumAt 97 = .ok (.iinc 5 1, 3) := by decide +kernel
theorem dX12_sumAt_100 : decode cX12_sumAt 100 = .ok (.goto (-71), 3) := by decide +kernel
theorem dX12_sumAt_103 : decode cX12_sumAt 103 = .ok (.iload 4, 2) := by decide +kernel
theorem dX12_sumAt_105 : decode cX12_sumAt 105 = .ok (.iload_n 2, 1) := by decide +kernel
theorem dX12_sumAt_106 : decode cX12_sumAt 106 = .ok (.if_icmp .ne 10, 3) := by decide +kernel
theorem dX12_sumAt_109 : decode cX12_sumAt 109 = .ok (.aload_n 0, 1) := by decide +kernel
theorem dX12_sumAt_110 : decode cX12_sumAt 110 = .ok (.getfield 110, 3) := by decide +kernel
theorem dX12_sumAt_113 : decode cX12_sumAt 113 = .ok (.iload_n 3, 1) := by decide +kernel
theorem dX12_sumAt_114 : decode cX12_sumAt 114 = .ok (.iaload, 1) := by decide +kernel
theorem dX12_sumAt_115 : decode cX12_sumAt 115 = .ok (.ireturn, 1) := by decide +kernel
theorem dX12_sumAt_116 : decode cX12_sumAt 116 = .ok (.iinc 3 1, 3) := by decide +kernel
theorem dX12_sumAt_119 : decode cX12_sumAt 119 = .ok (.goto (-117), 3) := by decide +kernel
theorem dX12_sumAt_122 : decode cX12_sumAt 122 = .ok (.iconst (-1), 1) := by decide +kernel
theorem dX12_sumAt_123 : decode cX12_sumAt 123 = .ok (.ireturn, 1) := by decide +kernel
theorem dX12_middle_0 : decode cX12_middle 0 = .ok (.aload_n 0, 1) := by decide +kernel
theorem dX12_middle_1 : decode cX12_middle 1 = .ok (.iload_n 1, 1) := by decide +kernel
theorem dX12_middle_2 : decode cX12_middle 2 = .ok (.invokevirtual 383, 3) := by decide +kernel
theorem dX12_middle_5 : decode cX12_middle 5 = .ok (.ifCond .eq 22, 3) := by decide +kernel
theorem dX12_middle_8 : decode cX12_middle 8 = .ok (.iload_n 2, 1) := by decide +kernel
theorem dX12_middle_9 : decode cX12_middle 9 = .ok (.iconst 0, 1) := by decide +kernel
theorem dX12_middle_10 : decode cX12_middle 10 = .ok (.bipush 60, 2) := by decide +kernel
theorem dX12_middle_12 : decode cX12_middle 12 = .ok (.invokestatic 174, 3) := by decide +kernel
theorem dX12_middle_15 : decode cX12_middle 15 = .ok (.ifCond .eq 12, 3) := by decide +kernel
theorem dX12_middle_18 : decode cX12_middle 18 = .ok (.iload_n 3, 1) := by decide +kernel
theorem dX12_middle_19 : decode cX12_middle 19 = .ok (.iconst 0, 1) := by decide +kernel
theorem dX12_middle_20 : decode cX12_middle 20 = .ok (.iconst 1, 1) := by decide +kernel
theorem dX12_middle_21 : decode cX12_middle 21 = .ok (.invokestatic 174, 3) := by decide +kernel
theorem dX12_middle_24 : decode cX12_middle 24 = .ok (.ifCond .ne 5, 3) := by decide +kernel
theorem dX12_middle_27 : decode cX12_middle 27 = .ok (.iconst (-1), 1) := by decide +kernel
theorem dX12_middle_28 : decode cX12_middle 28 = .ok (.ireturn, 1) := by decide +kernel
theorem dX12_middle_29 : decode cX12_middle 29 = .ok (.iconst 0, 1) := by decide +kernel
theorem dX12_middle_30 : decode cX12_middle 30 = .ok (.istore 4, 2) := by decide +kernel
theorem dX12_middle_32 : decode cX12_middle 32 = .ok (.iconst 0, 1) := by decide +kernel
theorem dX12_middle_33 : decode cX12_middle 33 = .ok (.istore 5, 2) := by decide +kernel
theorem dX12_middle_35 : decode cX12_middle 35 = .ok (.iload 5, 2) := by decide +kernel
theorem dX12_middle_37 : decode cX12_middle 37 = .ok (.aload_n 0, 1) := by decide +kernel
theorem dX12_middle_38 : decode cX12_middle 38 = .ok (.getfield 389, 3) := by decide +kernel
theorem dX12_middle_41 : decode cX12_middle 41 = .ok (.if_icmp .ge 30, 3) := by decide +kernel
theorem dX12_middle_44 : decode cX12_middle 44 = .ok (.iload 4, 2) := by decide +kernel
theorem dX12_middle_46 : decode cX12_middle 46 = .ok (.aload_n 0, 1) := by decide +kernel
theorem dX12_middle_47 : decode cX12_middle 47 = .ok (.getfield 107, 3) := by decide +kernel
theorem dX12_middle_50 : decode cX12_middle 50 = .ok (.iload 5, 2) := by decide +kernel
theorem dX12_middle_52 : decode cX12_middle 52 = .ok (.iaload, 1) := by decide +kernel
theorem dX12_middle_53 : decode cX12_middle 53 = .ok (.iload_n 1, 1) := by decide +kernel
theorem dX12_middle_54 : decode cX12_middle 54 = .ok (.if_icmp .ne 7, 3) := by decide +kernel
theorem dX12_middle_57 : decode cX12_middle 57 = .ok (.iconst 1, 1) := by decide +kernel
theorem dX12_middle_58 : decode cX12_middle 58 = .ok (.goto 4, 3) := by decide +kernel
theorem dX12_middle_61 : decode cX12_middle 61 = .ok (.iconst 0, 1) := by decide +kernel
theorem dX12_middle_62 : decode cX12_middle 62 = .ok (.iadd, 1) := by decide +kernel
theorem dX12_middle_63 : decode cX12_middle 63 = .ok (.istore 4, 2) := by decide +kernel
theorem dX12_middle_65 : decode cX12_middle 65 = .ok (.iinc 5 1, 3) := by decide +kernel
theorem dX12_middle_68 : decode cX12_middle 68 = .ok (.goto (-33), 3) := by decide +kernel
theorem dX12_middle_71 : decode cX12_middle 71 = .ok (.iload 4, 2) := by decide +kernel
theorem dX12_middle_73 : decode cX12_middle 73 = .ok (.iconst 2, 1) := by decide +kernel
theorem dX12_middle_74 : decode cX12_middle 74 = .ok (.idiv, 1) := by decide +kernel
theorem dX12_middle_75 : decode cX12_middle 75 = .ok (.istore 5, 2) := by decide +kernel
theorem dX12_middle_77 : decode cX12_middle 77 = .ok (.iload 4, 2) := by decide +kernel
theorem dX12_middle_79 : decode cX12_middle 79 = .ok (.ifCond .ne 6, 3) := by decide +kernel
theorem dX12_middle_82 : decode cX12_middle 82 = .ok (.bipush (-2), 2) := by decide +kernel
theorem dX12_middle_84 : decode cX12_middle 84 = .ok (.ireturn, 1) := by decide +kernel
theorem dX12_middle_85 : decode cX12_middle 85 = .ok (.iload_n 3, 1) := by decide +kernel
theorem dX12_middle_86 : decode cX12_middle 86 = .ok (.ifCond .ne 24, 3) := by decide +kernel
theorem dX12_middle_89 : decode cX12_middle 89 = .ok (.iload 5, 2) := by decide +kernel
theorem dX12_middle_91 : decode cX12_middle 91 = .ok (.iload_n 2, 1) := by decide +kernel
theorem dX12_middle_92 : decode cX12_middle 92 = .ok (.isub, 1) := by decide +kernel
theorem dX12_middle_93 : decode cX12_middle 93 = .ok (.ifCond .ge 7, 3) := by decide +kernel
theorem dX12_middle_96 : decode cX12_middle 96 = .ok (.iconst 0, 1) := by decide +kernel
theorem dX12_middle_97 : decode cX12_middle 97 = .ok (.goto 12, 3) := by decide +kernel
theorem dX12_middle_100 : decode cX12_middle 100 = .ok (.aload_n 0, 1) := by decide +kernel
theorem dX12_middle_101 : decode cX12_middle 101 = .ok (.iload_n 1, 1) := by decide +kernel
theorem dX12_middle_102 : decode cX12_middle 102 = .ok (.iload 5, 2) := by decide +kernel
theorem dX12_middle_104 : decode cX12_middle 104 = .ok (.iload_n 2, 1) := by decide +kernel
theorem dX12_middle_105 : decode cX12_middle 105 = .ok (.isub, 1) := by decide +kernel
theorem dX12_middle_106 : decode cX12_middle 106 = .ok (.invokevirtual 392, 3) := by decide +kernel
theorem dX12_middle_109 : decode cX12_middle 109 = .ok (.ireturn, 1) := by decide +kernel
theorem dX12_middle_110 : decode cX12_middle 110 = .ok (.iload 5, 2) := by decide +kernel
theorem dX12_middle_112 : decode cX12_middle 112 = .ok (.iload_n 2, 1) := by decide +kernel
theorem dX12_middle_113 : decode cX12_middle 113 = .ok (.iadd, 1) := by decide +kernel
theorem dX12_middle_114 : decode cX12_middle 114 = .ok (.iload 4, 2) := by decide +kernel
theorem dX12_middle_116 : decode cX12_middle 116 = .ok (.if_icmp .lt 9, 3) := by decide +kernel
theorem dX12_middle_119 : decode cX12_middle 119 = .ok (.sipush 10000, 3) := by decide +kernel
theorem dX12_middle_122 : decode cX12_middle 122 = .ok (.goto 12, 3) := by decide +kernel
theorem dX12_middle_125 : decode cX12_middle 125 = .ok (.aload_n 0, 1) := by decide +kernel
theorem dX12_middle_126 : decode cX12_middle 126 = .ok (.iload_n 1, 1) := by decide +kernel
theorem dX12_middle_127 : decode cX12_middle 127 = .ok (.iload 5, 2) := by decide +kernel
theorem dX12_middle_129 : decode cX12_middle 129 = .ok (.iload_n 2, 1) := by decide +kernel
theorem dX12_middle_130 : decode cX12_middle 130 = .ok (.iadd, 1) := by decide +kernel
theorem dX12_middle_131 : decode cX12_middle 131 = .ok (.invokevirtual 392, 3) := by decide +kernel
theorem dX12_middle_134 : decode cX12_middle 134 = .ok (.ireturn, 1) := by decide +kernel
theorem dX12_go_0 : decode cX12_go 0 = .ok (.aload_n 0, 1) := by decide +kernel
theorem dX12_go_1 : decode cX12_go 1 = .ok (.iload_n 1, 1) := by decide +kernel
theorem dX12_go_2 : decode cX12_go 2 = .ok (.invokevirtual 178, 3) := by decide +kernel
theorem dX12_go_5 : decode cX12_go 5 = .ok (.ifCond .eq 48, 3) := by decide +kernel
theorem dX12_go_8 : decode cX12_go 8 = .ok (.iload_n 1, 1) := by decide +kernel
theorem dX12_go_9 : decode cX12_go 9 = .ok (.ifCond .eq 44, 3) := by decide +kernel
theorem dX12_go_12 : decode cX12_go 12 = .ok (.iload_n 2, 1) := by decide +kernel
theorem dX12_go_13 : decode cX12_go 13 = .ok (.iconst 0, 1) := by decide +kernel
theorem dX12_go_14 : decode cX12_go 14 = .ok (.sipush 30000, 3) := by decide +kernel
theorem dX12_go_17 : decode cX12_go 17 = .ok (.invokestatic 174, 3) := by decide +kernel
theorem dX12_go_20 : decode cX12_go 20 = .ok (.ifCond .eq 33, 3) := by decide +kernel
theorem dX12_go_23 : decode cX12_go 23 = .ok (.iload_n 3, 1) := by decide +kernel
theorem dX12_go_24 : decode cX12_go 24 = .ok (.iconst 0, 1) := by decide +kernel
theorem dX12_go_25 : decode cX12_go 25 = .ok (.sipush 30000, 3) := by decide +kernel
theorem dX12_go_28 : decode cX12_go 28 = .ok (.invokestatic 174, 3) := by decide +kernel
theorem dX12_go_31 : decode cX12_go 31 = .ok (.ifCond .eq 22, 3) := by decide +kernel
theorem dX12_go_34 : decode cX12_go 34 = .ok (.iload 4, 2) := by decide +kernel
theorem dX12_go_36 : decode cX12_go 36 = .ok (.iload_n 3, 1) := by decide +kernel
theorem dX12_go_37 : decode cX12_go 37 = .ok (.iload_n 2, 1) := by decide +kernel
theorem dX12_go_38 : decode cX12_go 38 = .ok (.invokestatic 174, 3) := by decide +kernel
theorem dX12_go_41 : decode cX12_go 41 = .ok (.ifCond .eq 12, 3) := by decide +kernel
theorem dX12_go_44 : decode cX12_go 44 = .ok (.aload_n 0, 1) := by decide +kernel
theorem dX12_go_45 : decode cX12_go 45 = .ok (.getfield 395, 3) := by decide +kernel
theorem dX12_go_48 : decode cX12_go 48 = .ok (.bipush 8, 2) := by decide +kernel
theorem dX12_go_50 : decode cX12_go 50 = .ok (.if_icmp .ne 5, 3) := by decide +kernel
theorem dX12_go_53 : decode cX12_go 53 = .ok (.iconst (-1), 1) := by decide +kernel
theorem dX12_go_54 : decode cX12_go 54 = .ok (.ireturn, 1) := by decide +kernel
theorem dX12_go_55 : decode cX12_go 55 = .ok (.aload_n 0, 1) := by decide +kernel
theorem dX12_go_56 : decode cX12_go 56 = .ok (.getfield 113, 3) := by decide +kernel
theorem dX12_go_59 : decode cX12_go 59 = .ok (.aload_n 0, 1) := by decide +kernel
theorem dX12_go_60 : decode cX12_go 60 = .ok (.getfield 395, 3) := by decide +kernel
theorem dX12_go_63 : decode cX12_go 63 = .ok (.iload_n 1, 1) := by decide +kernel
theorem dX12_go_64 : decode cX12_go 64 = .ok (.iastore, 1) := by decide +kernel
theorem dX12_go_65 : decode cX12_go 65 = .ok (.aload_n 0, 1) := by decide +kernel
theorem dX12_go_66 : decode cX12_go 66 = .ok (.getfield 116, 3) := by decide +kernel
theorem dX12_go_69 : decode cX12_go 69 = .ok (.aload_n 0, 1) := by decide +kernel
theorem dX12_go_70 : decode cX12_go 70 = .ok (.getfield 395, 3) := by decide +kernel
theorem dX12_go_73 : decode cX12_go 73 = .ok (.iload_n 2, 1) := by decide +kernel
theorem dX12_go_74 : decode cX12_go 74 = .ok (.iastore, 1) := by decide +kernel
theorem dX12_go_75 : decode cX12_go 75 = .ok (.aload_n 0, 1) := by decide +kernel
theorem dX12_go_76 : decode cX12_go 76 = .ok (.getfield 119, 3) := by decide +kernel
theorem dX12_go_79 : decode cX12_go 79 = .ok (.aload_n 0, 1) := by decide +kernel
theorem dX12_go_80 : decode cX12_go 80 = .ok (.getfield 395, 3) := by decide +kernel
theorem dX12_go_83 : decode cX12_go 83 = .ok (.iload_n 3, 1) := by decide +kernel
theorem dX12_go_84 : decode cX12_go 84 = .ok (.iastore, 1) := by decide +kernel
theorem dX12_go_85 : decode cX12_go 85 = .ok (.aload_n 0, 1) := by decide +kernel
theorem dX12_go_86 : decode cX12_go 86 = .ok (.getfield 122, 3) := by decide +kernel
theorem dX12_go_89 : decode cX12_go 89 = .ok (.aload_n 0, 1) := by decide +kernel
theorem dX12_go_90 : decode cX12_go 90 = .ok (.getfield 395, 3) := by decide +kernel
theorem dX12_go_93 : decode cX12_go 93 = .ok (.iload 4, 2) := by decide +kernel
theorem dX12_go_95 : decode cX12_go 95 = .ok (.iastore, 1) := by decide +kernel
theorem dX12_go_96 : decode cX12_go 96 = .ok (.aload_n 0, 1) := by decide +kernel
theorem dX12_go_97 : decode cX12_go 97 = .ok (.aload_n 0, 1) := by decide +kernel
theorem dX12_go_98 : decode cX12_go 98 = .ok (.getfield 395, 3) := by decide +kernel
theorem dX12_go_101 : decode cX12_go 101 = .ok (.iconst 1, 1) := by decide +kernel
theorem dX12_go_102 : decode cX12_go 102 = .ok (.iadd, 1) := by decide +kernel
theorem dX12_go_103 : decode cX12_go 103 = .ok (.putfield 395, 3) := by decide +kernel
theorem dX12_go_106 : decode cX12_go 106 = .ok (.aload_n 0, 1) := by decide +kernel
theorem dX12_go_107 : decode cX12_go 107 = .ok (.getfield 395, 3) := by decide +kernel
theorem dX12_go_110 : decode cX12_go 110 = .ok (.iconst 1, 1) := by decide +kernel
theorem dX12_go_111 : decode cX12_go 111 = .ok (.isub, 1) := by decide +kernel
theorem dX12_go_112 : decode cX12_go 112 = .ok (.ireturn, 1) := by decide +kernel
theorem dX12_narrows_0 : decode cX12_narrows 0 = .ok (.iconst 0, 1) := by decide +kernel
theorem dX12_narrows_1 : decode cX12_narrows 1 = .ok (.istore_n 2, 1) := by decide +kernel
theorem dX12_narrows_2 : decode cX12_narrows 2 = .ok (.iconst 0, 1) := by decide +kernel
theorem dX12_narrows_3 : decode cX12_narrows 3 = .ok (.istore_n 3, 1) := by decide +kernel
theorem dX12_narrows_4 : decode cX12_narrows 4 = .ok (.iload_n 3, 1) := by decide +kernel
theorem dX12_narrows_5 : decode cX12_narrows 5 = .ok (.aload_n 0, 1) := by decide +kernel
theorem dX12_narrows_6 : decode cX12_narrows 6 = .ok (.getfield 165, 3) := by decide +kernel
theorem dX12_narrows_9 : decode cX12_narrows 9 = .ok (.if_icmp .ge 208, 3) := by decide +kernel
theorem dX12_narrows_12 : decode cX12_narrows 12 = .ok (.aload_n 0, 1) := by decide +kernel
theorem dX12_narrows_13 : decode cX12_narrows 13 = .ok (.getfield 113, 3) := by decide +kernel
theorem dX12_narrows_16 : decode cX12_narrows 16 = .ok (.iload_n 1, 1) := by decide +kernel
theorem dX12_narrows_17 : decode cX12_narrows 17 = .ok (.iaload, 1) := by decide +kernel
theorem dX12_narrows_18 : decode cX12_narrows 18 = .ok (.iload_n 3, 1) := by decide +kernel
theorem dX12_narrows_19 : decode cX12_narrows 19 = .ok (.ishr, 1) := by decide +kernel
theorem dX12_narrows_20 : decode cX12_narrows 20 = .ok (.iconst 1, 1) := by decide +kernel
theorem dX12_narrows_21 : decode cX12_narrows 21 = .ok (.iand, 1) := by decide +kernel
theorem dX12_narrows_22 : decode cX12_narrows 22 = .ok (.ifCond .ne 6, 3) := by decide +kernel
theorem dX12_narrows_25 : decode cX12_narrows 25 = .ok (.goto 186, 3) := by decide +kernel
theorem dX12_narrows_28 : decode cX12_narrows 28 = .ok (.aload_n 0, 1) := by decide +kernel
theorem dX12_narrows_29 : decode cX12_narrows 29 = .ok (.getfield 116, 3) := by decide +kernel
theorem dX12_narrows_32 : decode cX12_narrows 32 = .ok (.iload_n 1, 1) := by decide +kernel
theorem dX12_narrows_33 : decode cX12_narrows 33 = .ok (.iaload, 1) := by decide +kernel
theorem dX12_narrows_34 : decode cX12_narrows 34 = .ok (.aload_n 0, 1) := by decide +kernel
theorem dX12_narrows_35 : decode cX12_narrows 35 = .ok (.getfield 122, 3) := by decide +kernel
theorem dX12_narrows_38 : decode cX12_narrows 38 = .ok (.iload_n 1, 1) := by decide +kernel
theorem dX12_narrows_39 : decode cX12_narrows 39 = .ok (.iaload, 1) := by decide +kernel
theorem dX12_narrows_40 : decode cX12_narrows 40 = .ok (.isub, 1) := by decide +kernel
theorem dX12_narrows_41 : decode cX12_narrows 41 = .ok (.istore 4, 2) := by decide +kernel
theorem dX12_narrows_43 : decode cX12_narrows 43 = .ok (.aload_n 0, 1) := by decide +kernel
theorem dX12_narrows_44 : decode cX12_narrows 44 = .ok (.getfield 116, 3) := by decide +kernel
theorem dX12_narrows_47 : decode cX12_narrows 47 = .ok (.iload_n 1, 1) := by decide +kernel
theorem dX12_narrows_48 : decode cX12_narrows 48 = .ok (.iaload, 1) := by decide +kernel
theorem dX12_narrows_49 : decode cX12_narrows 49 = .ok (.aload_n 0, 1) := by decide +kernel
theorem dX12_narrows_50 : decode cX12_narrows 50 = .ok (.getfield 119, 3) := by decide +kernel
theorem dX12_narrows_53 : decode cX12_narrows 53 = .ok (.iload_n 1, 1) := by decide +kernel
theorem dX12_narrows_54 : decode cX12_narrows 54 = .ok (.iaload, 1) := by decide +kernel
theorem dX12_narrows_55 : decode cX12_narrows 55 = .ok (.isub, 1) := by decide +kernel
theorem dX12_narrows_56 : decode cX12_narrows 56 = .ok (.istore 5, 2) := by decide +kernel
theorem dX12_narrows_58 : decode cX12_narrows 58 = .ok (.iconst 0, 1) := by decide +kernel
theorem dX12_narrows_59 : decode cX12_narrows 59 = .ok (.istore 6, 2) := by decide +kernel
theorem dX12_narrows_61 : decode cX12_narrows 61 = .ok (.iload 6, 2) := by decide +kernel
theorem dX12_narrows_63 : decode cX12_narrows 63 = .ok (.aload_n 0, 1) := by decide +kernel
theorem dX12_narrows_64 : decode cX12_narrows 64 = .ok (.getfield 165, 3) := by decide +kernel
theorem dX12_narrows_67 : decode cX12_narrows 67 = .ok (.if_icmp .ge 56, 3) := by decide +kernel
theorem dX12_narrows_70 : decode cX12_narrows 70 = .ok (.iload 6, 2) := by decide +kernel
theorem dX12_narrows_72 : decode cX12_narrows 72 = .ok (.iload_n 3, 1) := by decide +kernel
theorem dX12_narrows_73 : decode cX12_narrows 73 = .ok (.if_icmp .eq 44, 3) := by decide +kernel
theorem dX12_narrows_76 : decode cX12_narrows 76 = .ok (.aload_n 0, 1) := by decide +kernel
theorem dX12_narrows_77 : decode cX12_narrows 77 = .ok (.getfield 113, 3) := by decide +kernel
theorem dX12_narrows_80 : decode cX12_narrows 80 = .ok (.iload_n 1, 1) := by decide +kernel
theorem dX12_narrows_81 : decode cX12_narrows 81 = .ok (.iaload, 1) := by decide +kernel
theorem dX12_narrows_82 : decode cX12_narrows 82 = .ok (.iload 6, 2) := by decide +kernel
theorem dX12_narrows_84 : decode cX12_narrows 84 = .ok (.ishr, 1) := by decide +kernel
theorem dX12_narrows_85 : decode cX12_narrows 85 = .ok (.iconst 1, 1) := by decide +kernel
theorem dX12_narrows_86 : decode cX12_narrows 86 = .ok (.iand, 1) := by decide +kernel
theorem dX12_narrows_87 : decode cX12_narrows 87 = .ok (.ifCond .ne 6, 3) := by decide +kernel
theorem dX12_narrows_90 : decode cX12_narrows 90 = .ok (.goto 27, 3) := by decide +kernel
theorem dX12_narrows_93 : decode cX12_narrows 93 = .ok (.iload 4, 2) := by decide +kernel
theorem dX12_narrows_95 : decode cX12_narrows 95 = .ok (.aload_n 0, 1) := by decide +kernel
theorem dX12_narrows_96 : decode cX12_narrows 96 = .ok (.getfield 131, 3) := by decide +kernel
theorem dX12_narrows_99 : decode cX12_narrows 99 = .ok (.iload 6, 2) := by decide +kernel
theorem dX12_narrows_101 : decode cX12_narrows 101 = .ok (.iaload, 1) := by decide +kernel
theorem dX12_narrows_102 : decode cX12_narrows 102 = .ok (.isub, 1) := by decide +kernel
theorem dX12_narrows_103 : decode cX12_narrows 103 = .ok (.istore 4, 2) := by decide +kernel
theorem dX12_narrows_105 : decode cX12_narrows 105 = .ok (.iload 5, 2) := by decide +kernel
theorem dX12_narrows_107 : decode cX12_narrows 107 = .ok (.aload_n 0, 1) := by decide +kernel
theorem dX12_narrows_108 : decode cX12_narrows 108 = .ok (.getfield 128, 3) := by decide +kernel
theorem dX12_narrows_111 : decode cX12_narrows 111 = .ok (.iload 6, 2) := by decide +kernel
theorem dX12_narrows_113 : decode cX12_narrows 113 = .ok (.iaload, 1) := by decide +kernel
theorem dX12_narrows_114 : decode cX12_narrows 114 = .ok (.isub, 1) := by decide +kernel
theorem dX12_narrows_115 : decode cX12_narrows 115 = .ok (.istore 5, 2) := by decide +kernel
theorem dX12_narrows_117 : decode cX12_narrows 117 = .ok (.iinc 6 1, 3) := by decide +kernel
theorem dX12_narrows_120 : decode cX12_narrows 120 = .ok (.goto (-59), 3) := by decide +kernel
theorem dX12_narrows_123 : decode cX12_narrows 123 = .ok (.iload_n 2, 1) := by decide +kernel
theorem dX12_narrows_124 : decode cX12_narrows 124 = .ok (.ifCond .ne 25, 3) := by decide +kernel
theorem dX12_narrows_127 : decode cX12_narrows 127 = .ok (.iload 4, 2) := by decide +kernel
theorem dX12_narrows_129 : decode cX12_narrows 129 = .ok (.aload_n 0, 1) := by decide +kernel
theorem dX12_narrows_130 : decode cX12_narrows 130 = .ok (.getfield 128, 3) := by decide +kernel
theorem dX12_narrows_133 : decode cX12_narrows 133 = .ok (.iload_n 3, 1) := by decide +kernel
theorem dX12_narrows_134 : decode cX12_narrows 134 = .ok (.iaload, 1) := by decide +kernel
theorem dX12_narrows_135 : decode cX12_narrows 135 = .ok (.if_icmp .gt 14, 3) := by decide +kernel
theorem dX12_narrows_138 : decode cX12_narrows 138 = .ok (.iload 5, 2) := by decide +kernel
theorem dX12_narrows_140 : decode cX12_narrows 140 = .ok (.aload_n 0, 1) := by decide +kernel
theorem dX12_narrows_141 : decode cX12_narrows 141 = .ok (.getfield 131, 3) := by decide +kernel
theorem dX12_narrows_144 : decode cX12_narrows 144 = .ok (.iload_n 3, 1) := by decide +kernel
theorem dX12_narrows_145 : decode cX12_narrows 145 = .ok (.iaload, 1) := by decide +kernel
theorem dX12_narrows_146 : decode cX12_narrows 146 = .ok (.if_icmp .ge 7, 3) := by decide +kernel
theorem dX12_narrows_149 : decode cX12_narrows 149 = .ok (.iconst 1, 1) := by decide +kernel
theorem dX12_narrows_150 : decode cX12_narrows 150 = .ok (.goto 4, 3) := by decide +kernel
theorem dX12_narrows_153 : decode cX12_narrows 153 = .ok (.iconst 0, 1) := by decide +kernel
theorem dX12_narrows_154 : decode cX12_narrows 154 = .ok (.istore_n 2, 1) := by decide +kernel
theorem dX12_narrows_155 : decode cX12_narrows 155 = .ok (.aload_n 0, 1) := by decide +kernel
theorem dX12_narrows_156 : decode cX12_narrows 156 = .ok (.getfield 128, 3) := by decide +kernel
theorem dX12_narrows_159 : decode cX12_narrows 159 = .ok (.iload_n 3, 1) := by decide +kernel
theorem dX12_narrows_160 : decode cX12_narrows 160 = .ok (.iload 4, 2) := by decide +kernel
theorem dX12_narrows_162 : decode cX12_narrows 162 = .ok (.aload_n 0, 1) := by decide +kernel
theorem dX12_narrows_163 : decode cX12_narrows 163 = .ok (.getfield 128, 3) := by decide +kernel
theorem dX12_narrows_166 : decode cX12_narrows 166 = .ok (.iload_n 3, 1) := by decide +kernel
theorem dX12_narrows_167 : decode cX12_narrows 167 = .ok (.iaload, 1) := by decide +kernel
theorem dX12_narrows_168 : decode cX12_narrows 168 = .ok (.if_icmp .le 8, 3) := by decide +kernel
theorem dX12_narrows_171 : decode cX12_narrows 171 = .ok (.iload 4, 2) := by decide +kernel
theorem dX12_narrows_173 : decode cX12_narrows 173 = .ok (.goto 9, 3) := by decide +kernel
theorem dX12_narrows_176 : decode cX12_narrows 176 = .ok (.aload_n 0, 1) := by decide +kernel
theorem dX12_narrows_177 : decode cX12_narrows 177 = .ok (.getfield 128, 3) := by decide +kernel
theorem dX12_narrows_180 : decode cX12_narrows 180 = .ok (.iload_n 3, 1) := by decide +kernel
theorem dX12_narrows_181 : decode cX12_narrows 181 = .ok (.iaload, 1) := by decide +kernel
theorem dX12_narrows_182 : decode cX12_narrows 182 = .ok (.iastore, 1) := by decide +kernel
theorem dX12_narrows_183 : decode cX12_narrows 183 = .ok (.aload_n 0, 1) := by decide +kernel
theorem dX12_narrows_184 : decode cX12_narrows 184 = .ok (.getfield 131, 3) := by decide +kernel
theorem dX12_narrows_187 : decode cX12_narrows 187 = .ok (.iload_n 3, 1) := by decide +kernel
theorem dX12_narrows_188 : decode cX12_narrows 188 = .ok (.iload 5, 2) := by decide +kernel
theorem dX12_narrows_190 : decode cX12_narrows 190 = .ok (.aload_n 0, 1) := by decide +kernel
theorem dX12_narrows_191 : decode cX12_narrows 191 = .ok (.getfield 131, 3) := by decide +kernel
theorem dX12_narrows_194 : decode cX12_narrows 194 = .ok (.iload_n 3, 1) := by decide +kernel
theorem dX12_narrows_195 : decode cX12_narrows 195 = .ok (.iaload, 1) := by decide +kernel
theorem dX12_narrows_196 : decode cX12_narrows 196 = .ok (.if_icmp .ge 8, 3) := by decide +kernel
theorem dX12_narrows_199 : decode cX12_narrows 199 = .ok (.iload 5, 2) := by decide +kernel
theorem dX12_narrows_201 : decode cX12_narrows 201 = .ok (.goto 9, 3) := by decide +kernel
theorem dX12_narrows_204 : decode cX12_narrows 204 = .ok (.aload_n 0, 1) := by decide +kernel
theorem dX12_narrows_205 : decode cX12_narrows 205 = .ok (.getfield 131, 3) := by decide +kernel
theorem dX12_narrows_208 : decode cX12_narrows 208 = .ok (.iload_n 3, 1) := by decide +kernel
theorem dX12_narrows_209 : decode cX12_narrows 209 = .ok (.iaload, 1) := by decide +kernel
theorem dX12_narrows_210 : decode cX12_narrows 210 = .ok (.iastore, 1) := by decide +kernel
theorem dX12_narrows_211 : decode cX12_narrows 211 = .ok (.iinc 3 1, 3) := by decide +kernel
theorem dX12_narrows_214 : decode cX12_narrows 214 = .ok (.goto (-210), 3) := by decide +kernel
theorem dX12_narrows_217 : decode cX12_narrows 217 = .ok (.iload_n 2, 1) := by decide +kernel
theorem dX12_narrows_218 : decode cX12_narrows 218 = .ok (.ireturn, 1) := by decide +kernel
theorem dX12_isTurnedOver_0 : decode cX12_isTurnedOver 0 = .ok (.iconst 0, 1) := by decide +kernel
theorem dX12_isTurnedOver_1 : decode cX12_isTurnedOver 1 = .ok (.istore_n 1, 1) := by decide +kernel
theorem dX12_isTurnedOver_2 : decode cX12_isTurnedOver 2 = .ok (.iload_n 1, 1) := by decide +kernel
theorem dX12_isTurnedOver_3 : decode cX12_isTurnedOver 3 = .ok (.aload_n 0, 1) := by decide +kernel
theorem dX12_isTurnedOver_4 : decode cX12_isTurnedOver 4 = .ok (.getfield 165, 3) := by decide +kernel
theorem dX12_isTurnedOver_7 : decode cX12_isTurnedOver 7 = .ok (.if_icmp .ge 26, 3) := by decide +kernel
theorem dX12_isTurnedOver_10 : decode cX12_isTurnedOver 10 = .ok (.aload_n 0, 1) := by decide +kernel
theorem dX12_isTurnedOver_11 : decode cX12_isTurnedOver 11 = .ok (.getfield 128, 3) := by decide +kernel
theorem dX12_isTurnedOver_14 : decode cX12_isTurnedOver 14 = .ok (.iload_n 1, 1) := by decide +kernel
theorem dX12_isTurnedOver_15 : decode cX12_isTurnedOver 15 = .ok (.iaload, 1) := by decide +kernel
theorem dX12_isTurnedOver_16 : decode cX12_isTurnedOver 16 = .ok (.aload_n 0, 1) := by decide +kernel
theorem dX12_isTurnedOver_17 : decode cX12_isTurnedOver 17 = .ok (.getfield 131, 3) := by decide +kernel
theorem dX12_isTurnedOver_20 : decode cX12_isTurnedOver 20 = .ok (.iload_n 1, 1) := by decide +kernel
theorem dX12_isTurnedOver_21 : decode cX12_isTurnedOver 21 = .ok (.iaload, 1) := by decide +kernel
theorem dX12_isTurnedOver_22 : decode cX12_isTurnedOver 22 = .ok (.if_icmp .le 5, 3) := by decide +kernel
theorem dX12_isTurnedOver_25 : decode cX12_isTurnedOver 25 = .ok (.iconst 1, 1) := by decide +kernel
theorem dX12_isTurnedOver_26 : decode cX12_isTurnedOver 26 = .ok (.ireturn, 1) := by decide +kernel
theorem dX12_isTurnedOver_27 : decode cX12_isTurnedOver 27 = .ok (.iinc 1 1, 3) := by decide +kernel
theorem dX12_isTurnedOver_30 : decode cX12_isTurnedOver 30 = .ok (.goto (-28), 3) := by decide +kernel
theorem dX12_isTurnedOver_33 : decode cX12_isTurnedOver 33 = .ok (.iconst 0, 1) := by decide +kernel
theorem dX12_isTurnedOver_34 : decode cX12_isTurnedOver 34 = .ok (.ireturn, 1) := by decide +kernel
theorem dX12_span_0 : decode cX12_span 0 = .ok (.aload_n 0, 1) := by decide +kernel
theorem dX12_span_1 : decode cX12_span 1 = .ok (.iload_n 1, 1) := by decide +kernel
theorem dX12_span_2 : decode cX12_span 2 = .ok (.invokevirtual 291, 3) := by decide +kernel
theorem dX12_span_5 : decode cX12_span 5 = .ok (.ifCond .eq 12, 3) := by decide +kernel
theorem dX12_span_8 : decode cX12_span 8 = .ok (.iload_n 2, 1) := by decide +kernel
theorem dX12_span_9 : decode cX12_span 9 = .ok (.iconst 0, 1) := by decide +kernel
theorem dX12_span_10 : decode cX12_span 10 = .ok (.iconst 1, 1) := by decide +kernel
theorem dX12_span_11 : decode cX12_span 11 = .ok (.invokestatic 174, 3) := by decide +kernel
theorem dX12_span_14 : decode cX12_span 14 = .ok (.ifCond .ne 5, 3) := by decide +kernel
theorem dX12_span_17 : decode cX12_span 17 = .ok (.iconst (-1), 1) := by decide +kernel
theorem dX12_span_18 : decode cX12_span 18 = .ok (.ireturn, 1) := by decide +kernel
theorem dX12_span_19 : decode cX12_span 19 = .ok (.iconst 0, 1) := by decide +kernel
theorem dX12_span_20 : decode cX12_span 20 = .ok (.istore_n 3, 1) := by decide +kernel
theorem dX12_span_21 : decode cX12_span 21 = .ok (.iload_n 3, 1) := by decide +kernel
theorem dX12_span_22 : decode cX12_span 22 = .ok (.aload_n 0, 1) := by decide +kernel
theorem dX12_span_23 : decode cX12_span 23 = .ok (.getfield 165, 3) := by decide +kernel
theorem dX12_span_26 : decode cX12_span 26 = .ok (.if_icmp .ge 25, 3) := by decide +kernel
theorem dX12_span_29 : decode cX12_span 29 = .ok (.aload_n 0, 1) := by decide +kernel
theorem dX12_span_30 : decode cX12_span 30 = .ok (.getfield 128, 3) := by decide +kernel
theorem dX12_span_33 : decode cX12_span 33 = .ok (.iload_n 3, 1) := by decide +kernel
theorem dX12_span_34 : decode cX12_span 34 = .ok (.iconst 0, 1) := by decide +kernel
theorem dX12_span_35 : decode cX12_span 35 = .ok (.iastore, 1) := by decide +kernel
theorem dX12_span_36 : decode cX12_span 36 = .ok (.aload_n 0, 1) := by decide +kernel
theorem dX12_span_37 : decode cX12_span 37 = .ok (.getfield 131, 3) := by decide +kernel
theorem dX12_span_40 : decode cX12_span 40 = .ok (.iload_n 3, 1) := by decide +kernel
theorem dX12_span_41 : decode cX12_span 41 = .ok (.sipush 10000, 3) := by decide +kernel
theorem dX12_span_44 : decode cX12_span 44 = .ok (.iastore, 1) := by decide +kernel
theorem dX12_span_45 : decode cX12_span 45 = .ok (.iinc 3 1, 3) := by decide +kernel
theorem dX12_span_48 : decode cX12_span 48 = .ok (.goto (-27), 3) := by decide +kernel
theorem dX12_span_51 : decode cX12_span 51 = .ok (.iconst 1, 1) := by decide +kernel
theorem dX12_span_52 : decode cX12_span 52 = .ok (.istore_n 3, 1) := by decide +kernel
theorem dX12_span_53 : decode cX12_span 53 = .ok (.iload_n 3, 1) := by decide +kernel
theorem dX12_span_54 : decode cX12_span 54 = .ok (.ifCond .eq 52, 3) := by decide +kernel
theorem dX12_span_57 : decode cX12_span 57 = .ok (.aload_n 0, 1) := by decide +kernel
theorem dX12_span_58 : decode cX12_span 58 = .ok (.invokevirtual 398, 3) := by decide +kernel
theorem dX12_span_61 : decode cX12_span 61 = .ok (.ifCond .ne 45, 3) := by decide +kernel
theorem dX12_span_64 : decode cX12_span 64 = .ok (.iconst 0, 1) := by decide +kernel
theorem dX12_span_65 : decode cX12_span 65 = .ok (.istore_n 3, 1) := by decide +kernel
theorem dX12_span_66 : decode cX12_span 66 = .ok (.iconst 0, 1) := by decide +kernel
theorem dX12_span_67 : decode cX12_span 67 = .ok (.istore 4, 2) := by decide +kernel
theorem dX12_span_69 : decode cX12_span 69 = .ok (.iload 4, 2) := by decide +kernel
theorem dX12_span_71 : decode cX12_span 71 = .ok (.aload_n 0, 1) := by decide +kernel
theorem dX12_span_72 : decode cX12_span 72 = .ok (.getfield 395, 3) := by decide +kernel
theorem dX12_span_75 : decode cX12_span 75 = .ok (.if_icmp .ge 28, 3) := by decide +kernel
theorem dX12_span_78 : decode cX12_span 78 = .ok (.aload_n 0, 1) := by decide +kernel
theorem dX12_span_79 : decode cX12_span 79 = .ok (.iload 4, 2) := by decide +kernel
theorem dX12_span_81 : decode cX12_span 81 = .ok (.invokevirtual 401, 3) := by decide +kernel
theorem dX12_span_84 : decode cX12_span 84 = .ok (.ifCond .ne 7, 3) := by decide +kernel
theorem dX12_span_87 : decode cX12_span 87 = .ok (.iload_n 3, 1) := by decide +kernel
theorem dX12_span_88 : decode cX12_span 88 = .ok (.ifCond .eq 7, 3) := by decide +kernel
theorem dX12_span_91 : decode cX12_span 91 = .ok (.iconst 1, 1) := by decide +kernel
theorem dX12_span_92 : decode cX12_span 92 = .ok (.goto 4, 3) := by decide +kernel
theorem dX12_span_95 : decode cX12_span 95 = .ok (.iconst 0, 1) := by decide +kernel
theorem dX12_span_96 : decode cX12_span 96 = .ok (.istore_n 3, 1) := by decide +kernel
theorem dX12_span_97 : decode cX12_span 97 = .ok (.iinc 4 1, 3) := by decide +kernel
theorem dX12_span_100 : decode cX12_span 100 = .ok (.goto (-31), 3) := by decide +kernel
theorem dX12_span_103 : decode cX12_span 103 = .ok (.goto (-50), 3) := by decide +kernel
theorem dX12_span_106 : decode cX12_span 106 = .ok (.aload_n 0, 1) := by decide +kernel
theorem dX12_span_107 : decode cX12_span 107 = .ok (.invokevirtual 398, 3) := by decide +kernel
theorem dX12_span_110 : decode cX12_span 110 = .ok (.ifCond .eq 8, 3) := by decide +kernel
theorem dX12_span_113 : decode cX12_span 113 = .ok (.bipush (-2), 2) := by decide +kernel
theorem dX12_span_115 : decode cX12_span 115 = .ok (.goto 22, 3) := by decide +kernel
theorem dX12_span_118 : decode cX12_span 118 = .ok (.iload_n 2, 1) := by decide +kernel
theorem dX12_span_119 : decode cX12_span 119 = .ok (.ifCond .ne 12, 3) := by decide +kernel
theorem dX12_span_122 : decode cX12_span 122 = .ok (.aload_n 0, 1) := by decide +kernel
theorem dX12_span_123 : decode cX12_span 123 = .ok (.getfield 128, 3) := by decide +kernel
theorem dX12_span_126 : decode cX12_span 126 = .ok (.iload_n 1, 1) := by decide +kernel
theorem dX12_span_127 : decode cX12_span 127 = .ok (.iaload, 1) := by decide +kernel
theorem dX12_span_128 : decode cX12_span 128 = .ok (.goto 9, 3) := by decide +kernel
theorem dX12_span_131 : decode cX12_span 131 = .ok (.aload_n 0, 1) := by decide +kernel
theorem dX12_span_132 : decode cX12_span 132 = .ok (.getfield 131, 3) := by decide +kernel
theorem dX12_span_135 : decode cX12_span 135 = .ok (.iload_n 1, 1) := by decide +kernel
theorem dX12_span_136 : decode cX12_span 136 = .ok (.iaload, 1) := by decide +kernel
theorem dX12_span_137 : decode cX12_span 137 = .ok (.ireturn, 1) := by decide +kernel
theorem dX12_choose_0 : decode cX12_choose 0 = .ok (.iload_n 1, 1) := by decide +kernel
theorem dX12_choose_1 : decode cX12_choose 1 = .ok (.ifCond .lt 8, 3) := by decide +kernel
theorem dX12_choose_4 : decode cX12_choose 4 = .ok (.iload_n 1, 1) := by decide +kernel
theorem dX12_choose_5 : decode cX12_choose 5 = .ok (.iload_n 0, 1) := by decide +kernel
theorem dX12_choose_6 : decode cX12_choose 6 = .ok (.if_icmp .le 5, 3) := by decide +kernel
theorem dX12_choose_9 : decode cX12_choose 9 = .ok (.iconst 0, 1) := by decide +kernel
theorem dX12_choose_10 : decode cX12_choose 10 = .ok (.ireturn, 1) := by decide +kernel
theorem dX12_choose_11 : decode cX12_choose 11 = .ok (.iconst 1, 1) := by decide +kernel
theorem dX12_choose_12 : decode cX12_choose 12 = .ok (.istore_n 2, 1) := by decide +kernel
theorem dX12_choose_13 : decode cX12_choose 13 = .ok (.iconst 1, 1) := by decide +kernel
theorem dX12_choose_14 : decode cX12_choose 14 = .ok (.istore_n 3, 1) := by decide +kernel
theorem dX12_choose_15 : decode cX12_choose 15 = .ok (.iload_n 3, 1) := by decide +kernel
theorem dX12_choose_16 : decode cX12_choose 16 = .ok (.iload_n 1, 1) := by decide +kernel
theorem dX12_choose_17 : decode cX12_choose 17 = .ok (.if_icmp .gt 19, 3) := by decide +kernel
theorem dX12_choose_20 : decode cX12_choose 20 = .ok (.iload_n 2, 1) := by decide +kernel
theorem dX12_choose_21 : decode cX12_choose 21 = .ok (.iload_n 0, 1) := by decide +kernel
theorem dX12_choose_22 : decode cX12_choose 22 = .ok (.iload_n 1, 1) := by decide +kernel
theorem dX12_choose_23 : decode cX12_choose 23 = .ok (.isub, 1) := by decide +kernel
theorem dX12_choose_24 : decode cX12_choose 24 = .ok (.iload_n 3, 1) := by decide +kernel
theorem dX12_choose_25 : decode cX12_choose 25 = .ok (.iadd, 1) := by decide +kernel
theorem dX12_choose_26 : decode cX12_choose 26 = .ok (.imul, 1) := by decide +kernel
theorem dX12_choose_27 : decode cX12_choose 27 = .ok (.iload_n 3, 1) := by decide +kernel
theorem dX12_choose_28 : decode cX12_choose 28 = .ok (.idiv, 1) := by decide +kernel
theorem dX12_choose_29 : decode cX12_choose 29 = .ok (.istore_n 2, 1) := by decide +kernel
theorem dX12_choose_30 : decode cX12_choose 30 = .ok (.iinc 3 1, 3) := by decide +kernel
theorem dX12_choose_33 : decode cX12_choose 33 = .ok (.goto (-18), 3) := by decide +kernel
theorem dX12_choose_36 : decode cX12_choose 36 = .ok (.iload_n 2, 1) := by decide +kernel
theorem dX12_choose_37 : decode cX12_choose 37 = .ok (.ireturn, 1) := by decide +kernel
theorem dX12_gcd_0 : decode cX12_gcd 0 = .ok (.iload_n 0, 1) := by decide +kernel
theorem dX12_gcd_1 : decode cX12_gcd 1 = .ok (.istore_n 2, 1) := by decide +kernel
theorem dX12_gcd_2 : decode cX12_gcd 2 = .ok (.iload_n 1, 1) := by decide +kernel
theorem dX12_gcd_3 : decode cX12_gcd 3 = .ok (.istore_n 3, 1) := by decide +kernel
theorem dX12_gcd_4 : decode cX12_gcd 4 = .ok (.iload_n 3, 1) := by decide +kernel
theorem dX12_gcd_5 : decode cX12_gcd 5 = .ok (.ifCond .eq 16, 3) := by decide +kernel
theorem dX12_gcd_8 : decode cX12_gcd 8 = .ok (.iload_n 2, 1) := by decide +kernel
theorem dX12_gcd_9 : decode cX12_gcd 9 = .ok (.iload_n 3, 1) := by decide +kernel
theorem dX12_gcd_10 : decode cX12_gcd 10 = .ok (.irem, 1) := by decide +kernel
theorem dX12_gcd_11 : decode cX12_gcd 11 = .ok (.istore 4, 2) := by decide +kernel
theorem dX12_gcd_13 : decode cX12_gcd 13 = .ok (.iload_n 3, 1) := by decide +kernel
theorem dX12_gcd_14 : decode cX12_gcd 14 = .ok (.istore_n 2, 1) := by decide +kernel
theorem dX12_gcd_15 : decode cX12_gcd 15 = .ok (.iload 4, 2) := by decide +kernel
theorem dX12_gcd_17 : decode cX12_gcd 17 = .ok (.istore_n 3, 1) := by decide +kernel
theorem dX12_gcd_18 : decode cX12_gcd 18 = .ok (.goto (-14), 3) := by decide +kernel
theorem dX12_gcd_21 : decode cX12_gcd 21 = .ok (.iload_n 2, 1) := by decide +kernel
theorem dX12_gcd_22 : decode cX12_gcd 22 = .ok (.ireturn, 1) := by decide +kernel
theorem dX12_areSent_0 : decode cX12_areSent 0 = .ok (.iload_n 0, 1) := by decide +kernel
theorem dX12_areSent_1 : decode cX12_areSent 1 = .ok (.iconst 1, 1) := by decide +kernel
theorem dX12_areSent_2 : decode cX12_areSent 2 = .ok (.bipush 10, 2) := by decide +kernel
theorem dX12_areSent_4 : decode cX12_areSent 4 = .ok (.invokestatic 174, 3) := by decide +kernel
theorem dX12_areSent_7 : decode cX12_areSent 7 = .ok (.ifCond .eq 25, 3) := by decide +kernel
theorem dX12_areSent_10 : decode cX12_areSent 10 = .ok (.iload_n 1, 1) := by decide +kernel
theorem dX12_areSent_11 : decode cX12_areSent 11 = .ok (.iconst 0, 1) := by decide +kernel
theorem dX12_areSent_12 : decode cX12_areSent 12 = .ok (.iload_n 0, 1) := by decide +kernel
theorem dX12_areSent_13 : decode cX12_areSent 13 = .ok (.invokestatic 174, 3) := by decide +kernel
theorem dX12_areSent_16 : decode cX12_areSent 16 = .ok (.ifCond .eq 16, 3) := by decide +kernel
theorem dX12_areSent_19 : decode cX12_areSent 19 = .ok (.iload_n 2, 1) := by decide +kernel
theorem dX12_areSent_20 : decode cX12_areSent 20 = .ok (.iconst 0, 1) := by decide +kernel
theorem dX12_areSent_21 : decode cX12_areSent 21 = .ok (.iload_n 1, 1) := by decide +kernel
theorem dX12_areSent_22 : decode cX12_areSent 22 = .ok (.invokestatic 174, 3) := by decide +kernel
theorem dX12_areSent_25 : decode cX12_areSent 25 = .ok (.ifCond .eq 7, 3) := by decide +kernel
theorem dX12_areSent_28 : decode cX12_areSent 28 = .ok (.iconst 1, 1) := by decide +kernel
theorem dX12_areSent_29 : decode cX12_areSent 29 = .ok (.goto 4, 3) := by decide +kernel
theorem dX12_areSent_32 : decode cX12_areSent 32 = .ok (.iconst 0, 1) := by decide +kernel
theorem dX12_areSent_33 : decode cX12_areSent 33 = .ok (.ireturn, 1) := by decide +kernel
theorem dX12_odds_0 : decode cX12_odds 0 = .ok (.iload_n 1, 1) := by decide +kernel
theorem dX12_odds_1 : decode cX12_odds 1 = .ok (.iload_n 2, 1) := by decide +kernel
theorem dX12_odds_2 : decode cX12_odds 2 = .ok (.iload_n 3, 1) := by decide +kernel
theorem dX12_odds_3 : decode cX12_odds 3 = .ok (.invokestatic 404, 3) := by decide +kernel
theorem dX12_odds_6 : decode cX12_odds 6 = .ok (.ifCond .eq 23, 3) := by decide +kernel
theorem dX12_odds_9 : decode cX12_odds 9 = .ok (.iload 4, 2) := by decide +kernel
theorem dX12_odds_11 : decode cX12_odds 11 = .ok (.iconst 0, 1) := by decide +kernel
theorem dX12_odds_12 : decode cX12_odds 12 = .ok (.iload_n 1, 1) := by decide +kernel
theorem dX12_odds_13 : decode cX12_odds 13 = .ok (.invokestatic 174, 3) := by decide +kernel
theorem dX12_odds_16 : decode cX12_odds 16 = .ok (.ifCond .eq 13, 3) := by decide +kernel
theorem dX12_odds_19 : decode cX12_odds 19 = .ok (.iload 5, 2) := by decide +kernel
theorem dX12_odds_21 : decode cX12_odds 21 = .ok (.iconst 0, 1) := by decide +kernel
theorem dX12_odds_22 : decode cX12_odds 22 = .ok (.iconst 1, 1) := by decide +kernel
theorem dX12_odds_23 : decode cX12_odds 23 = .ok (.invokestatic 174, 3) := by decide +kernel
theorem dX12_odds_26 : decode cX12_odds 26 = .ok (.ifCond .ne 5, 3) := by decide +kernel
theorem dX12_odds_29 : decode cX12_odds 29 = .ok (.iconst (-1), 1) := by decide +kernel
theorem dX12_odds_30 : decode cX12_odds 30 = .ok (.ireturn, 1) := by decide +kernel
theorem dX12_odds_31 : decode cX12_odds 31 = .ok (.iload 4, 2) := by decide +kernel
theorem dX12_odds_33 : decode cX12_odds 33 = .ok (.iload_n 3, 1) := by decide +kernel
theorem dX12_odds_34 : decode cX12_odds 34 = .ok (.invokestatic 407, 3) := by decide +kernel
theorem dX12_odds_37 : decode cX12_odds 37 = .ok (.iload_n 1, 1) := by decide +kernel
theorem dX12_odds_38 : decode cX12_odds 38 = .ok (.iload 4, 2) := by decide +kernel
theorem dX12_odds_40 : decode cX12_odds 40 = .ok (.isub, 1) := by decide +kernel
theorem dX12_odds_41 : decode cX12_odds 41 = .ok (.iload_n 2, 1) := by decide +kernel
theorem dX12_odds_42 : decode cX12_odds 42 = .ok (.iload_n 3, 1) := by decide +kernel
theorem dX12_odds_43 : decode cX12_odds 43 = .ok (.isub, 1) := by decide +kernel
theorem dX12_odds_44 : decode cX12_odds 44 = .ok (.invokestatic 407, 3) := by decide +kernel
theorem dX12_odds_47 : decode cX12_odds 47 = .ok (.imul, 1) := by decide +kernel
theorem dX12_odds_48 : decode cX12_odds 48 = .ok (.istore 6, 2) := by decide +kernel
theorem dX12_odds_50 : decode cX12_odds 50 = .ok (.iload_n 1, 1) := by decide +kernel
theorem dX12_odds_51 : decode cX12_odds 51 = .ok (.iload_n 2, 1) := by decide +kernel
theorem dX12_odds_52 : decode cX12_odds 52 = .ok (.invokestatic 407, 3) := by decide +kernel
theorem dX12_odds_55 : decode cX12_odds 55 = .ok (.istore 7, 2) := by decide +kernel
theorem dX12_odds_57 : decode cX12_odds 57 = .ok (.iload 6, 2) := by decide +kernel
theorem dX12_odds_59 : decode cX12_odds 59 = .ok (.iload 7, 2) := by decide +kernel
theorem dX12_odds_61 : decode cX12_odds 61 = .ok (.invokestatic 410, 3) := by decide +kernel
theorem dX12_odds_64 : decode cX12_odds 64 = .ok (.istore 8, 2) := by decide +kernel
theorem dX12_odds_66 : decode cX12_odds 66 = .ok (.iload 5, 2) := by decide +kernel
theorem dX12_odds_68 : decode cX12_odds 68 = .ok (.ifCond .ne 11, 3) := by decide +kernel
theorem dX12_odds_71 : decode cX12_odds 71 = .ok (.iload 6, 2) := by decide +kernel
theorem dX12_odds_73 : decode cX12_odds 73 = .ok (.iload 8, 2) := by decide +kernel
theorem dX12_odds_75 : decode cX12_odds 75 = .ok (.idiv, 1) := by decide +kernel
theorem dX12_odds_76 : decode cX12_odds 76 = .ok (.goto 8, 3) := by decide +kernel
theorem dX12_odds_79 : decode cX12_odds 79 = .ok (.iload 7, 2) := by decide +kernel
theorem dX12_odds_81 : decode cX12_odds 81 = .ok (.iload 8, 2) := by decide +kernel
theorem dX12_odds_83 : decode cX12_odds 83 = .ok (.idiv, 1) := by decide +kernel
theorem dX12_odds_84 : decode cX12_odds 84 = .ok (.ireturn, 1) := by decide +kernel
theorem dX12_those_0 : decode cX12_those 0 = .ok (.iload_n 1, 1) := by decide +kernel
theorem dX12_those_1 : decode cX12_those 1 = .ok (.iload_n 2, 1) := by decide +kernel
theorem dX12_those_2 : decode cX12_those 2 = .ok (.iload_n 3, 1) := by decide +kernel
theorem dX12_those_3 : decode cX12_those 3 = .ok (.invokestatic 404, 3) := by decide +kernel
theorem dX12_those_6 : decode cX12_those 6 = .ok (.ifCond .eq 25, 3) := by decide +kernel
theorem dX12_those_9 : decode cX12_those 9 = .ok (.iload 4, 2) := by decide +kernel
theorem dX12_those_11 : decode cX12_those 11 = .ok (.iconst 1, 1) := by decide +kernel
theorem dX12_those_12 : decode cX12_those 12 = .ok (.sipush 1000, 3) := by decide +kernel
theorem dX12_those_15 : decode cX12_those 15 = .ok (.invokestatic 174, 3) := by decide +kernel
theorem dX12_those_18 : decode cX12_those 18 = .ok (.ifCond .eq 13, 3) := by decide +kernel
theorem dX12_those_21 : decode cX12_those 21 = .ok (.iload 5, 2) := by decide +kernel
theorem dX12_those_23 : decode cX12_those 23 = .ok (.iconst 0, 1) := by decide +kernel
theorem dX12_those_24 : decode cX12_those 24 = .ok (.iconst 1, 1) := by decide +kernel
theorem dX12_those_25 : decode cX12_those 25 = .ok (.invokestatic 174, 3) := by decide +kernel
theorem dX12_those_28 : decode cX12_those 28 = .ok (.ifCond .ne 5, 3) := by decide +kernel
theorem dX12_those_31 : decode cX12_those 31 = .ok (.iconst (-1), 1) := by decide +kernel
theorem dX12_those_32 : decode cX12_those 32 = .ok (.ireturn, 1) := by decide +kernel
theorem dX12_those_33 : decode cX12_those 33 = .ok (.bipush (-2), 2) := by decide +kernel
theorem dX12_those_35 : decode cX12_those 35 = .ok (.istore 6, 2) := by decide +kernel
theorem dX12_those_37 : decode cX12_those 37 = .ok (.iconst 0, 1) := by decide +kernel
theorem dX12_those_38 : decode cX12_those 38 = .ok (.istore 7, 2) := by decide +kernel
theorem dX12_those_40 : decode cX12_those 40 = .ok (.iload 7, 2) := by decide +kernel
theorem dX12_those_42 : decode cX12_those 42 = .ok (.iload_n 1, 1) := by decide +kernel
theorem dX12_those_43 : decode cX12_those 43 = .ok (.if_icmp .gt 61, 3) := by decide +kernel
theorem dX12_those_46 : decode cX12_those 46 = .ok (.sipush 1000, 3) := by decide +kernel
theorem dX12_those_49 : decode cX12_those 49 = .ok (.iload 7, 2) := by decide +kernel
theorem dX12_those_51 : decode cX12_those 51 = .ok (.iload_n 3, 1) := by decide +kernel
theorem dX12_those_52 : decode cX12_those 52 = .ok (.invokestatic 407, 3) := by decide +kernel
theorem dX12_those_55 : decode cX12_those 55 = .ok (.imul, 1) := by decide +kernel
theorem dX12_those_56 : decode cX12_those 56 = .ok (.iload_n 1, 1) := by decide +kernel
theorem dX12_those_57 : decode cX12_those 57 = .ok (.iload 7, 2) := by decide +kernel
theorem dX12_those_59 : decode cX12_those 59 = .ok (.isub, 1) := by decide +kernel
theorem dX12_those_60 : decode cX12_those 60 = .ok (.iload_n 2, 1) := by decide +kernel
theorem dX12_those_61 : decode cX12_those 61 = .ok (.iload_n 3, 1) := by decide +kernel
theorem dX12_those_62 : decode cX12_those 62 = .ok (.isub, 1) := by decide +kernel
theorem dX12_those_63 : decode cX12_those 63 = .ok (.invokestatic 407, 3) := by decide +kernel
theorem dX12_those_66 : decode cX12_those 66 = .ok (.imul, 1) := by decide +kernel
theorem dX12_those_67 : decode cX12_those 67 = .ok (.iload 4, 2) := by decide +kernel
theorem dX12_those_69 : decode cX12_those 69 = .ok (.iload_n 1, 1) := by decide +kernel
theorem dX12_those_70 : decode cX12_those 70 = .ok (.iload_n 2, 1) := by decide +kernel
theorem dX12_those_71 : decode cX12_those 71 = .ok (.invokestatic 407, 3) := by decide +kernel
theorem dX12_those_74 : decode cX12_those 74 = .ok (.imul, 1) := by decide +kernel
theorem dX12_those_75 : decode cX12_those 75 = .ok (.if_icmp .ge 6, 3) := by decide +kernel
theorem dX12_those_78 : decode cX12_those 78 = .ok (.goto 20, 3) := by decide +kernel
theorem dX12_those_81 : decode cX12_those 81 = .ok (.iload 5, 2) := by decide +kernel
theorem dX12_those_83 : decode cX12_those 83 = .ok (.iconst 1, 1) := by decide +kernel
theorem dX12_those_84 : decode cX12_those 84 = .ok (.if_icmp .eq 10, 3) := by decide +kernel
theorem dX12_those_87 : decode cX12_those 87 = .ok (.iload 6, 2) := by decide +kernel
theorem dX12_those_89 : decode cX12_those 89 = .ok (.bipush (-2), 2) := by decide +kernel
theorem dX12_those_91 : decode cX12_those 91 = .ok (.if_icmp .ne 7, 3) := by decide +kernel
theorem dX12_those_94 : decode cX12_those 94 = .ok (.iload 7, 2) := by decide +kernel
theorem dX12_those_96 : decode cX12_those 96 = .ok (.istore 6, 2) := by decide +kernel
theorem dX12_those_98 : decode cX12_those 98 = .ok (.iinc 7 1, 3) := by decide +kernel
theorem dX12_those_101 : decode cX12_those 101 = .ok (.goto (-61), 3) := by decide +kernel
theorem dX12_those_104 : decode cX12_those 104 = .ok (.iload 6, 2) := by decide +kernel
theorem dX12_those_106 : decode cX12_those 106 = .ok (.ireturn, 1) := by decide +kernel
theorem dX12_bears_0 : decode cX12_bears 0 = .ok (.iconst (-1), 1) := by decide +kernel
theorem dX12_bears_1 : decode cX12_bears 1 = .ok (.istore_n 1, 1) := by decide +kernel
theorem dX12_bears_2 : decode cX12_bears 2 = .ok (.iconst 0, 1) := by decide +kernel
theorem dX12_bears_3 : decode cX12_bears 3 = .ok (.istore_n 2, 1) := by decide +kernel
theorem dX12_bears_4 : decode cX12_bears 4 = .ok (.iload_n 2, 1) := by decide +kernel
theorem dX12_bears_5 : decode cX12_bears 5 = .ok (.aload_n 0, 1) := by decide +kernel
theorem dX12_bears_6 : decode cX12_bears 6 = .ok (.getfield 171, 3) := by decide +kernel
theorem dX12_bears_9 : decode cX12_bears 9 = .ok (.if_icmp .ge 71, 3) := by decide +kernel
theorem dX12_bears_12 : decode cX12_bears 12 = .ok (.aload_n 0, 1) := by decide +kernel
theorem dX12_bears_13 : decode cX12_bears 13 = .ok (.getfield 49, 3) := by decide +kernel
theorem dX12_bears_16 : decode cX12_bears 16 = .ok (.iload_n 2, 1) := by decide +kernel
theorem dX12_bears_17 : decode cX12_bears 17 = .ok (.iaload, 1) := by decide +kernel
theorem dX12_bears_18 : decode cX12_bears 18 = .ok (.ifCond .eq 56, 3) := by decide +kernel
theorem dX12_bears_21 : decode cX12_bears 21 = .ok (.aload_n 0, 1) := by decide +kernel
theorem dX12_bears_22 : decode cX12_bears 22 = .ok (.getfield 31, 3) := by decide +kernel
theorem dX12_bears_25 : decode cX12_bears 25 = .ok (.iload_n 2, 1) := by decide +kernel
theorem dX12_bears_26 : decode cX12_bears 26 = .ok (.iaload, 1) := by decide +kernel
theorem dX12_bears_27 : decode cX12_bears 27 = .ok (.ifCond .ne 6, 3) := by decide +kernel
theorem dX12_bears_30 : decode cX12_bears 30 = .ok (.goto 44, 3) := by decide +kernel
theorem dX12_bears_33 : decode cX12_bears 33 = .ok (.iload_n 1, 1) := by decide +kernel
theorem dX12_bears_34 : decode cX12_bears 34 = .ok (.iconst (-1), 1) := by decide +kernel
theorem dX12_bears_35 : decode cX12_bears 35 = .ok (.if_icmp .eq 37, 3) := by decide +kernel
theorem dX12_bears_38 : decode cX12_bears 38 = .ok (.aload_n 0, 1) := by decide +kernel
theorem dX12_bears_39 : decode cX12_bears 39 = .ok (.getfield 49, 3) := by decide +kernel
theorem dX12_bears_42 : decode cX12_bears 42 = .ok (.iload_n 2, 1) := by decide +kernel
theorem dX12_bears_43 : decode cX12_bears 43 = .ok (.iaload, 1) := by decide +kernel
theorem dX12_bears_44 : decode cX12_bears 44 = .ok (.i2l, 1) := by decide +kernel
theorem dX12_bears_45 : decode cX12_bears 45 = .ok (.aload_n 0, 1) := by decide +kernel
theorem dX12_bears_46 : decode cX12_bears 46 = .ok (.getfield 31, 3) := by decide +kernel
theorem dX12_bears_49 : decode cX12_bears 49 = .ok (.iload_n 1, 1) := by decide +kernel
theorem dX12_bears_50 : decode cX12_bears 50 = .ok (.iaload, 1) := by decide +kernel
theorem dX12_bears_51 : decode cX12_bears 51 = .ok (.i2l, 1) := by decide +kernel
theorem dX12_bears_52 : decode cX12_bears 52 = .ok (.lmul, 1) := by decide +kernel
theorem dX12_bears_53 : decode cX12_bears 53 = .ok (.aload_n 0, 1) := by decide +kernel
theorem dX12_bears_54 : decode cX12_bears 54 = .ok (.getfield 49, 3) := by decide +kernel
theorem dX12_bears_57 : decode cX12_bears 57 = .ok (.iload_n 1, 1) := by decide +kernel
theorem dX12_bears_58 : decode cX12_bears 58 = .ok (.iaload, 1) := by decide +kernel
theorem dX12_bears_59 : decode cX12_bears 59 = .ok (.i2l, 1) := by decide +kernel
theorem dX12_bears_60 : decode cX12_bears 60 = .ok (.aload_n 0, 1) := by decide +kernel
theorem dX12_bears_61 : decode cX12_bears 61 = .ok (.getfield 31, 3) := by decide +kernel
theorem dX12_bears_64 : decode cX12_bears 64 = .ok (.iload_n 2, 1) := by decide +kernel
theorem dX12_bears_65 : decode cX12_bears 65 = .ok (.iaload, 1) := by decide +kernel
theorem dX12_bears_66 : decode cX12_bears 66 = .ok (.i2l, 1) := by decide +kernel
theorem dX12_bears_67 : decode cX12_bears 67 = .ok (.lmul, 1) := by decide +kernel
theorem dX12_bears_68 : decode cX12_bears 68 = .ok (.lcmp, 1) := by decide +kernel
theorem dX12_bears_69 : decode cX12_bears 69 = .ok (.ifCond .le 5, 3) := by decide +kernel
theorem dX12_bears_72 : decode cX12_bears 72 = .ok (.iload_n 2, 1) := by decide +kernel
theorem dX12_bears_73 : decode cX12_bears 73 = .ok (.istore_n 1, 1) := by decide +kernel
theorem dX12_bears_74 : decode cX12_bears 74 = .ok (.iinc 2 1, 3) := by decide +kernel
theorem dX12_bears_77 : decode cX12_bears 77 = .ok (.goto (-73), 3) := by decide +kernel
theorem dX12_bears_80 : decode cX12_bears 80 = .ok (.iload_n 1, 1) := by decide +kernel
theorem dX12_bears_81 : decode cX12_bears 81 = .ok (.ireturn, 1) := by decide +kernel
theorem dX12_laysBy_0 : decode cX12_laysBy 0 = .ok (.iconst 0, 1) := by decide +kernel
theorem dX12_laysBy_1 : decode cX12_laysBy 1 = .ok (.istore_n 1, 1) := by decide +kernel
theorem dX12_laysBy_2 : decode cX12_laysBy 2 = .ok (.iload_n 1, 1) := by decide +kernel
theorem dX12_laysBy_3 : decode cX12_laysBy 3 = .ok (.aload_n 0, 1) := by decide +kernel
theorem dX12_laysBy_4 : decode cX12_laysBy 4 = .ok (.getfield 171, 3) := by decide +kernel
theorem dX12_laysBy_7 : decode cX12_laysBy 7 = .ok (.if_icmp .ge 81, 3) := by decide +kernel
theorem dX12_laysBy_10 : decode cX12_laysBy 10 = .ok (.aload_n 0, 1) := by decide +kernel
theorem dX12_laysBy_11 : decode cX12_laysBy 11 = .ok (.getfield 134, 3) := by decide +kernel
theorem dX12_laysBy_14 : decode cX12_laysBy 14 = .ok (.iload_n 1, 1) := by decide +kernel
theorem dX12_laysBy_15 : decode cX12_laysBy 15 = .ok (.aload_n 0, 1) := by decide +kernel
theorem dX12_laysBy_16 : decode cX12_laysBy 16 = .ok (.getfield 40, 3) := by decide +kernel
theorem dX12_laysBy_19 : decode cX12_laysBy 19 = .ok (.iload_n 1, 1) := by decide +kernel
theorem dX12_laysBy_20 : decode cX12_laysBy 20 = .ok (.iaload, 1) := by decide +kernel
theorem dX12_laysBy_21 : decode cX12_laysBy 21 = .ok (.iastore, 1) := by decide +kernel
theorem dX12_laysBy_22 : decode cX12_laysBy 22 = .ok (.aload_n 0, 1) := by decide +kernel
theorem dX12_laysBy_23 : decode cX12_laysBy 23 = .ok (.getfield 137, 3) := by decide +kernel
theorem dX12_laysBy_26 : decode cX12_laysBy 26 = .ok (.iload_n 1, 1) := by decide +kernel
theorem dX12_laysBy_27 : decode cX12_laysBy 27 = .ok (.aload_n 0, 1) := by decide +kernel
theorem dX12_laysBy_28 : decode cX12_laysBy 28 = .ok (.getfield 43, 3) := by decide +kernel
theorem dX12_laysBy_31 : decode cX12_laysBy 31 = .ok (.iload_n 1, 1) := by decide +kernel
theorem dX12_laysBy_32 : decode cX12_laysBy 32 = .ok (.iaload, 1) := by decide +kernel
theorem dX12_laysBy_33 : decode cX12_laysBy 33 = .ok (.iastore, 1) := by decide +kernel
theorem dX12_laysBy_34 : decode cX12_laysBy 34 = .ok (.aload_n 0, 1) := by decide +kernel
theorem dX12_laysBy_35 : decode cX12_laysBy 35 = .ok (.getfield 140, 3) := by decide +kernel
theorem dX12_laysBy_38 : decode cX12_laysBy 38 = .ok (.iload_n 1, 1) := by decide +kernel
theorem dX12_laysBy_39 : decode cX12_laysBy 39 = .ok (.aload_n 0, 1) := by decide +kernel
theorem dX12_laysBy_40 : decode cX12_laysBy 40 = .ok (.getfield 46, 3) := by decide +kernel
theorem dX12_laysBy_43 : decode cX12_laysBy 43 = .ok (.iload_n 1, 1) := by decide +kernel
theorem dX12_laysBy_44 : decode cX12_laysBy 44 = .ok (.iaload, 1) := by decide +kernel
theorem dX12_laysBy_45 : decode cX12_laysBy 45 = .ok (.iastore, 1) := by decide +kernel
theorem dX12_laysBy_46 : decode cX12_laysBy 46 = .ok (.aload_n 0, 1) := by decide +kernel
theorem dX12_laysBy_47 : decode cX12_laysBy 47 = .ok (.getfield 143, 3) := by decide +kernel
theorem dX12_laysBy_50 : decode cX12_laysBy 50 = .ok (.iload_n 1, 1) := by decide +kernel
theorem dX12_laysBy_51 : decode cX12_laysBy 51 = .ok (.aload_n 0, 1) := by decide +kernel
theorem dX12_laysBy_52 : decode cX12_laysBy 52 = .ok (.getfield 49, 3) := by decide +kernel
theorem dX12_laysBy_55 : decode cX12_laysBy 55 = .ok (.iload_n 1, 1) := by decide +kernel
theorem dX12_laysBy_56 : decode cX12_laysBy 56 = .ok (.iaload, 1) := by decide +kernel
theorem dX12_laysBy_57 : decode cX12_laysBy 57 = .ok (.iastore, 1) := by decide +kernel
theorem dX12_laysBy_58 : decode cX12_laysBy 58 = .ok (.aload_n 0, 1) := by decide +kernel
theorem dX12_laysBy_59 : decode cX12_laysBy 59 = .ok (.getfield 146, 3) := by decide +kernel
theorem dX12_laysBy_62 : decode cX12_laysBy 62 = .ok (.iload_n 1, 1) := by decide +kernel
theorem dX12_laysBy_63 : decode cX12_laysBy 63 = .ok (.aload_n 0, 1) := by decide +kernel
theorem dX12_laysBy_64 : decode cX12_laysBy 64 = .ok (.getfield 52, 3) := by decide +kernel
theorem dX12_laysBy_67 : decode cX12_laysBy 67 = .ok (.iload_n 1, 1) := by decide +kernel
theorem dX12_laysBy_68 : decode cX12_laysBy 68 = .ok (.iaload, 1) := by decide +kernel
theorem dX12_laysBy_69 : decode cX12_laysBy 69 = .ok (.iastore, 1) := by decide +kernel
theorem dX12_laysBy_70 : decode cX12_laysBy 70 = .ok (.aload_n 0, 1) := by decide +kernel
theorem dX12_laysBy_71 : decode cX12_laysBy 71 = .ok (.getfield 149, 3) := by decide +kernel
theorem dX12_laysBy_74 : decode cX12_laysBy 74 = .ok (.iload_n 1, 1) := by decide +kernel
theorem dX12_laysBy_75 : decode cX12_laysBy 75 = .ok (.aload_n 0, 1) := by decide +kernel
theorem dX12_laysBy_76 : decode cX12_laysBy 76 = .ok (.getfield 55, 3) := by decide +kernel
theorem dX12_laysBy_79 : decode cX12_laysBy 79 = .ok (.iload_n 1, 1) := by decide +kernel
theorem dX12_laysBy_80 : decode cX12_laysBy 80 = .ok (.iaload, 1) := by decide +kernel
theorem dX12_laysBy_81 : decode cX12_laysBy 81 = .ok (.iastore, 1) := by decide +kernel
theorem dX12_laysBy_82 : decode cX12_laysBy 82 = .ok (.iinc 1 1, 3) := by decide +kernel
theorem dX12_laysBy_85 : decode cX12_laysBy 85 = .ok (.goto (-83), 3) := by decide +kernel
theorem dX12_laysBy_88 : decode cX12_laysBy 88 = .ok (.iconst 0, 1) := by decide +kernel
theorem dX12_laysBy_89 : decode cX12_laysBy 89 = .ok (.istore_n 1, 1) := by decide +kernel
theorem dX12_laysBy_90 : decode cX12_laysBy 90 = .ok (.iload_n 1, 1) := by decide +kernel
theorem dX12_laysBy_91 : decode cX12_laysBy 91 = .ok (.aload_n 0, 1) := by decide +kernel
theorem dX12_laysBy_92 : decode cX12_laysBy 92 = .ok (.getfield 165, 3) := by decide +kernel
theorem dX12_laysBy_95 : decode cX12_laysBy 95 = .ok (.if_icmp .ge 33, 3) := by decide +kernel
theorem dX12_laysBy_98 : decode cX12_laysBy 98 = .ok (.aload_n 0, 1) := by decide +kernel
theorem dX12_laysBy_99 : decode cX12_laysBy 99 = .ok (.getfield 152, 3) := by decide +kernel
theorem dX12_laysBy_102 : decode cX12_laysBy 102 = .ok (.iload_n 1, 1) := by decide +kernel
theorem dX12_laysBy_103 : decode cX12_laysBy 103 = .ok (.aload_n 0, 1) := by decide +kernel
theorem dX12_laysBy_104 : decode cX12_laysBy 104 = .ok (.getfield 16, 3) := by decide +kernel
theorem dX12_laysBy_107 : decode cX12_laysBy 107 = .ok (.iload_n 1, 1) := by decide +kernel
theorem dX12_laysBy_108 : decode cX12_laysBy 108 = .ok (.iaload, 1) := by decide +kernel
theorem dX12_laysBy_109 : decode cX12_laysBy 109 = .ok (.iastore, 1) := by decide +kernel
theorem dX12_laysBy_110 : decode cX12_laysBy 110 = .ok (.aload_n 0, 1) := by decide +kernel
theorem dX12_laysBy_111 : decode cX12_laysBy 111 = .ok (.getfield 155, 3) := by decide +kernel
theorem dX12_laysBy_114 : decode cX12_laysBy 114 = .ok (.iload_n 1, 1) := by decide +kernel
theorem dX12_laysBy_115 : decode cX12_laysBy 115 = .ok (.aload_n 0, 1) := by decide +kernel
theorem dX12_laysBy_116 : decode cX12_laysBy 116 = .ok (.getfield 19, 3) := by decide +kernel
theorem dX12_laysBy_119 : decode cX12_laysBy 119 = .ok (.iload_n 1, 1) := by decide +kernel
theorem dX12_laysBy_120 : decode cX12_laysBy 120 = .ok (.iaload, 1) := by decide +kernel
theorem dX12_laysBy_121 : decode cX12_laysBy 121 = .ok (.iastore, 1) := by decide +kernel
theorem dX12_laysBy_122 : decode cX12_laysBy 122 = .ok (.iinc 1 1, 3) := by decide +kernel
theorem dX12_laysBy_125 : decode cX12_laysBy 125 = .ok (.goto (-35), 3) := by decide +kernel
theorem dX12_laysBy_128 : decode cX12_laysBy 128 = .ok (.return_, 1) := by decide +kernel
theorem dX12_takesUp_0 : decode cX12_takesUp 0 = .ok (.iconst 0, 1) := by decide +kernel
theorem dX12_takesUp_1 : decode cX12_takesUp 1 = .ok (.istore_n 1, 1) := by decide +kernel
theorem dX12_takesUp_2 : decode cX12_takesUp 2 = .ok (.iload_n 1, 1) := by decide +kernel
theorem dX12_takesUp_3 : decode cX12_takesUp 3 = .ok (.aload_n 0, 1) := by decide +kernel
theorem dX12_takesUp_4 : decode cX12_takesUp 4 = .ok (.getfield 171, 3) := by decide +kernel
theorem dX12_takesUp_7 : decode cX12_takesUp 7 = .ok (.if_icmp .ge 81, 3) := by decide +kernel
theorem dX12_takesUp_10 : decode cX12_takesUp 10 = .ok (.aload_n 0, 1) := by decide +kernel
theorem dX12_takesUp_11 : decode cX12_takesUp 11 = .ok (.getfield 40, 3) := by decide +kernel
theorem dX12_takesUp_14 : decode cX12_takesUp 14 = .ok (.iload_n 1, 1) := by decide +kernel
theorem dX12_takesUp_15 : decode cX12_takesUp 15 = .ok (.aload_n 0, 1) := by decide +kernel
theorem dX12_takesUp_16 : decode cX12_takesUp 16 = .ok (.getfield 134, 3) := by decide +kernel
theorem dX12_takesUp_19 : decode cX12_takesUp 19 = .ok (.iload_n 1, 1) := by decide +kernel
theorem dX12_takesUp_20 : decode cX12_takesUp 20 = .ok (.iaload, 1) := by decide +kernel
theorem dX12_takesUp_21 : decode cX12_takesUp 21 = .ok (.iastore, 1) := by decide +kernel
theorem dX12_takesUp_22 : decode cX12_takesUp 22 = .ok (.aload_n 0, 1) := by decide +kernel
theorem dX12_takesUp_23 : decode cX12_takesUp 23 = .ok (.getfield 43, 3) := by decide +kernel
theorem dX12_takesUp_26 : decode cX12_takesUp 26 = .ok (.iload_n 1, 1) := by decide +kernel
theorem dX12_takesUp_27 : decode cX12_takesUp 27 = .ok (.aload_n 0, 1) := by decide +kernel
theorem dX12_takesUp_28 : decode cX12_takesUp 28 = .ok (.getfield 137, 3) := by decide +kernel
theorem dX12_takesUp_31 : decode cX12_takesUp 31 = .ok (.iload_n 1, 1) := by decide +kernel
theorem dX12_takesUp_32 : decode cX12_takesUp 32 = .ok (.iaload, 1) := by decide +kernel
theorem dX12_takesUp_33 : decode cX12_takesUp 33 = .ok (.iastore, 1) := by decide +kernel
theorem dX12_takesUp_34 : decode cX12_takesUp 34 = .ok (.aload_n 0, 1) := by decide +kernel
theorem dX12_takesUp_35 : decode cX12_takesUp 35 = .ok (.getfield 46, 3) := by decide +kernel
theorem dX12_takesUp_38 : decode cX12_takesUp 38 = .ok (.iload_n 1, 1) := by decide +kernel
theorem dX12_takesUp_39 : decode cX12_takesUp 39 = .ok (.aload_n 0, 1) := by decide +kernel
theorem dX12_takesUp_40 : decode cX12_takesUp 40 = .ok (.getfield 140, 3) := by decide +kernel
theorem dX12_takesUp_43 : decode cX12_takesUp 43 = .ok (.iload_n 1, 1) := by decide +kernel
theorem dX12_takesUp_44 : decode cX12_takesUp 44 = .ok (.iaload, 1) := by decide +kernel
theorem dX12_takesUp_45 : decode cX12_takesUp 45 = .ok (.iastore, 1) := by decide +kernel
theorem dX12_takesUp_46 : decode cX12_takesUp 46 = .ok (.aload_n 0, 1) := by decide +kernel
theorem dX12_takesUp_47 : decode cX12_takesUp 47 = .ok (.getfield 49, 3) := by decide +kernel
theorem dX12_takesUp_50 : decode cX12_takesUp 50 = .ok (.iload_n 1, 1) := by decide +kernel
theorem dX12_takesUp_51 : decode cX12_takesUp 51 = .ok (.aload_n 0, 1) := by decide +kernel
theorem dX12_takesUp_52 : decode cX12_takesUp 52 = .ok (.getfield 143, 3) := by decide +kernel
theorem dX12_takesUp_55 : decode cX12_takesUp 55 = .ok (.iload_n 1, 1) := by decide +kernel
theorem dX12_takesUp_56 : decode cX12_takesUp 56 = .ok (.iaload, 1) := by decide +kernel
theorem dX12_takesUp_57 : decode cX12_takesUp 57 = .ok (.iastore, 1) := by decide +kernel
theorem dX12_takesUp_58 : decode cX12_takesUp 58 = .ok (.aload_n 0, 1) := by decide +kernel
theorem dX12_takesUp_59 : decode cX12_takesUp 59 = .ok (.getfield 52, 3) := by decide +kernel
theorem dX12_takesUp_62 : decode cX12_takesUp 62 = .ok (.iload_n 1, 1) := by decide +kernel
theorem dX12_takesUp_63 : decode cX12_takesUp 63 = .ok (.aload_n 0, 1) := by decide +kernel
theorem dX12_takesUp_64 : decode cX12_takesUp 64 = .ok (.getfield 146, 3) := by decide +kernel
theorem dX12_takesUp_67 : decode cX12_takesUp 67 = .ok (.iload_n 1, 1) := by decide +kernel
theorem dX12_takesUp_68 : decode cX12_takesUp 68 = .ok (.iaload, 1) := by decide +kernel
theorem dX12_takesUp_69 : decode cX12_takesUp 69 = .ok (.iastore, 1) := by decide +kernel
theorem dX12_takesUp_70 : decode cX12_takesUp 70 = .ok (.aload_n 0, 1) := by decide +kernel
theorem dX12_takesUp_71 : decode cX12_takesUp 71 = .ok (.getfield 55, 3) := by decide +kernel
theorem dX12_takesUp_74 : decode cX12_takesUp 74 = .ok (.iload_n 1, 1) := by decide +kernel
theorem dX12_takesUp_75 : decode cX12_takesUp 75 = .ok (.aload_n 0, 1) := by decide +kernel
theorem dX12_takesUp_76 : decode cX12_takesUp 76 = .ok (.getfield 149, 3) := by decide +kernel
theorem dX12_takesUp_79 : decode cX12_takesUp 79 = .ok (.iload_n 1, 1) := by decide +kernel
theorem dX12_takesUp_80 : decode cX12_takesUp 80 = .ok (.iaload, 1) := by decide +kernel
theorem dX12_takesUp_81 : decode cX12_takesUp 81 = .ok (.iastore, 1) := by decide +kernel
theorem dX12_takesUp_82 : decode cX12_takesUp 82 = .ok (.iinc 1 1, 3) := by decide +kernel
theorem dX12_takesUp_85 : decode cX12_takesUp 85 = .ok (.goto (-83), 3) := by decide +kernel
theorem dX12_takesUp_88 : decode cX12_takesUp 88 = .ok (.iconst 0, 1) := by decide +kernel
theorem dX12_takesUp_89 : decode cX12_takesUp 89 = .ok (.istore_n 1, 1) := by decide +kernel
theorem dX12_takesUp_90 : decode cX12_takesUp 90 = .ok (.iload_n 1, 1) := by decide +kernel
theorem dX12_takesUp_91 : decode cX12_takesUp 91 = .ok (.aload_n 0, 1) := by decide +kernel
theorem dX12_takesUp_92 : decode cX12_takesUp 92 = .ok (.getfield 165, 3) := by decide +kernel
theorem dX12_takesUp_95 : decode cX12_takesUp 95 = .ok (.if_icmp .ge 33, 3) := by decide +kernel
theorem dX12_takesUp_98 : decode cX12_takesUp 98 = .ok (.aload_n 0, 1) := by decide +kernel
theorem dX12_takesUp_99 : decode cX12_takesUp 99 = .ok (.getfield 16, 3) := by decide +kernel
theorem dX12_takesUp_102 : decode cX12_takesUp 102 = .ok (.iload_n 1, 1) := by decide +kernel
theorem dX12_takesUp_103 : decode cX12_takesUp 103 = .ok (.aload_n 0, 1) := by decide +kernel
theorem dX12_takesUp_104 : decode cX12_takesUp 104 = .ok (.getfield 152, 3) := by decide +kernel
theorem dX12_takesUp_107 : decode cX12_takesUp 107 = .ok (.iload_n 1, 1) := by decide +kernel
theorem dX12_takesUp_108 : decode cX12_takesUp 108 = .ok (.iaload, 1) := by decide +kernel
theorem dX12_takesUp_109 : decode cX12_takesUp 109 = .ok (.iastore, 1) := by decide +kernel
theorem dX12_takesUp_110 : decode cX12_takesUp 110 = .ok (.aload_n 0, 1) := by decide +kernel
theorem dX12_takesUp_111 : decode cX12_takesUp 111 = .ok (.getfield 19, 3) := by decide +kernel
theorem dX12_takesUp_114 : decode cX12_takesUp 114 = .ok (.iload_n 1, 1) := by decide +kernel
theorem dX12_takesUp_115 : decode cX12_takesUp 115 = .ok (.aload_n 0, 1) := by decide +kernel
theorem dX12_takesUp_116 : decode cX12_takesUp 116 = .ok (.getfield 155, 3) := by decide +kernel
theorem dX12_takesUp_119 : decode cX12_takesUp 119 = .ok (.iload_n 1, 1) := by decide +kernel
theorem dX12_takesUp_120 : decode cX12_takesUp 120 = .ok (.iaload, 1) := by decide +kernel
theorem dX12_takesUp_121 : decode cX12_takesUp 121 = .ok (.iastore, 1) := by decide +kernel
theorem dX12_takesUp_122 : decode cX12_takesUp 122 = .ok (.iinc 1 1, 3) := by decide +kernel
theorem dX12_takesUp_125 : decode cX12_takesUp 125 = .ok (.goto (-35), 3) := by decide +kernel
theorem dX12_takesUp_128 : decode cX12_takesUp 128 = .ok (.return_, 1) := by decide +kernel
theorem dX12_again_0 : decode cX12_again 0 = .ok (.iload_n 1, 1) := by decide +kernel
theorem dX12_again_1 : decode cX12_again 1 = .ok (.iconst 0, 1) := by decide +kernel
theorem dX12_again_2 : decode cX12_again 2 = .ok (.iconst 2, 1) := by decide +kernel
theorem dX12_again_3 : decode cX12_again 3 = .ok (.invokestatic 174, 3) := by decide +kernel
theorem dX12_again_6 : decode cX12_again 6 = .ok (.ifCond .ne 5, 3) := by decide +kernel
theorem dX12_again_9 : decode cX12_again 9 = .ok (.iconst (-1), 1) := by decide +kernel
theorem dX12_again_10 : decode cX12_again 10 = .ok (.ireturn, 1) := by decide +kernel
theorem dX12_again_11 : decode cX12_again 11 = .ok (.aload_n 0, 1) := by decide +kernel
theorem dX12_again_12 : decode cX12_again 12 = .ok (.invokevirtual 413, 3) := by decide +kernel
theorem dX12_again_15 : decode cX12_again 15 = .ok (.aload_n 0, 1) := by decide +kernel
theorem dX12_again_16 : decode cX12_again 16 = .ok (.getfield 183, 3) := by decide +kernel
theorem dX12_again_19 : decode cX12_again 19 = .ok (.istore_n 2, 1) := by decide +kernel
theorem dX12_again_20 : decode cX12_again 20 = .ok (.aload_n 0, 1) := by decide +kernel
theorem dX12_again_21 : decode cX12_again 21 = .ok (.getfield 162, 3) := by decide +kernel
theorem dX12_again_24 : decode cX12_again 24 = .ok (.istore_n 3, 1) := by decide +kernel
theorem dX12_again_25 : decode cX12_again 25 = .ok (.aload_n 0, 1) := by decide +kernel
theorem dX12_again_26 : decode cX12_again 26 = .ok (.getfield 308, 3) := by decide +kernel
theorem dX12_again_29 : decode cX12_again 29 = .ok (.istore 4, 2) := by decide +kernel
theorem dX12_again_31 : decode cX12_again 31 = .ok (.iconst 0, 1) := by decide +kernel
theorem dX12_again_32 : decode cX12_again 32 = .ok (.istore 5, 2) := by decide +kernel
theorem dX12_again_34 : decode cX12_again 34 = .ok (.iload 5, 2) := by decide +kernel
theorem dX12_again_36 : decode cX12_again 36 = .ok (.aload_n 0, 1) := by decide +kernel
theorem dX12_again_37 : decode cX12_again 37 = .ok (.getfield 171, 3) := by decide +kernel
theorem dX12_again_40 : decode cX12_again 40 = .ok (.if_icmp .ge 47, 3) := by decide +kernel
theorem dX12_again_43 : decode cX12_again 43 = .ok (.aload_n 0, 1) := by decide +kernel
theorem dX12_again_44 : decode cX12_again 44 = .ok (.getfield 40, 3) := by decide +kernel
theorem dX12_again_47 : decode cX12_again 47 = .ok (.iload 5, 2) := by decide +kernel
theorem dX12_again_49 : decode cX12_again 49 = .ok (.iconst 0, 1) := by decide +kernel
theorem dX12_again_50 : decode cX12_again 50 = .ok (.iastore, 1) := by decide +kernel
theorem dX12_again_51 : decode cX12_again 51 = .ok (.aload_n 0, 1) := by decide +kernel
theorem dX12_again_52 : decode cX12_again 52 = .ok (.getfield 43, 3) := by decide +kernel
theorem dX12_again_55 : decode cX12_again 55 = .ok (.iload 5, 2) := by decide +kernel
theorem dX12_again_57 : decode cX12_again 57 = .ok (.aload_n 0, 1) := by decide +kernel
theorem dX12_again_58 : decode cX12_again 58 = .ok (.getfield 31, 3) := by decide +kernel
theorem dX12_again_61 : decode cX12_again 61 = .ok (.iload 5, 2) := by decide +kernel
theorem dX12_again_63 : decode cX12_again 63 = .ok (.iaload, 1) := by decide +kernel
theorem dX12_again_64 : decode cX12_again 64 = .ok (.iastore, 1) := by decide +kernel
theorem dX12_again_65 : decode cX12_again 65 = .ok (.aload_n 0, 1) := by decide +kernel
theorem dX12_again_66 : decode cX12_again 66 = .ok (.getfield 46, 3) := by decide +kernel
theorem dX12_again_69 : decode cX12_again 69 = .ok (.iload 5, 2) := by decide +kernel
theorem dX12_again_71 : decode cX12_again 71 = .ok (.iconst 0, 1) := by decide +kernel
theorem dX12_again_72 : decode cX12_again 72 = .ok (.iastore, 1) := by decide +kernel
theorem dX12_again_73 : decode cX12_again 73 = .ok (.aload_n 0, 1) := by decide +kernel
theorem dX12_again_74 : decode cX12_again 74 = .ok (.getfield 49, 3) := by decide +kernel
theorem dX12_again_77 : decode cX12_again 77 = .ok (.iload 5, 2) := by decide +kernel
theorem dX12_again_79 : decode cX12_again 79 = .ok (.iconst 0, 1) := by decide +kernel
theorem dX12_again_80 : decode cX12_again 80 = .ok (.iastore, 1) := by decide +kernel
theorem dX12_again_81 : decode cX12_again 81 = .ok (.iinc 5 1, 3) := by decide +kernel
theorem dX12_again_84 : decode cX12_again 84 = .ok (.goto (-50), 3) := by decide +kernel
theorem dX12_again_87 : decode cX12_again 87 = .ok (.aload_n 0, 1) := by decide +kernel
theorem dX12_again_88 : decode cX12_again 88 = .ok (.iconst 0, 1) := by decide +kernel
theorem dX12_again_89 : decode cX12_again 89 = .ok (.putfield 183, 3) := by decide +kernel
theorem dX12_again_92 : decode cX12_again 92 = .ok (.aload_n 0, 1) := by decide +kernel
theorem dX12_again_93 : decode cX12_again 93 = .ok (.aload_n 0, 1) := by decide +kernel
theorem dX12_again_94 : decode cX12_again 94 = .ok (.getfield 158, 3) := by decide +kernel
theorem dX12_again_97 : decode cX12_again 97 = .ok (.putfield 162, 3) := by decide +kernel
theorem dX12_again_100 : decode cX12_again 100 = .ok (.aload_n 0, 1) := by decide +kernel
theorem dX12_again_101 : decode cX12_again 101 = .ok (.iconst 0, 1) := by decide +kernel
theorem dX12_again_102 : decode cX12_again 102 = .ok (.putfield 308, 3) := by decide +kernel
theorem dX12_again_105 : decode cX12_again 105 = .ok (.iconst 0, 1) := by decide +kernel
theorem dX12_again_106 : decode cX12_again 106 = .ok (.istore 5, 2) := by decide +kernel
theorem dX12_again_108 : decode cX12_again 108 = .ok (.aload_n 0, 1) := by decide +kernel
theorem dX12_again_109 : decode cX12_again 109 = .ok (.getfield 183, 3) := by decide +kernel
theorem dX12_again_112 : decode cX12_again 112 = .ok (.iload_n 2, 1) := by decide +kernel
theorem dX12_again_113 : decode cX12_again 113 = .ok (.if_icmp .ge 19, 3) := by decide +kernel
theorem dX12_again_116 : decode cX12_again 116 = .ok (.aload_n 0, 1) := by decide +kernel
theorem dX12_again_117 : decode cX12_again 117 = .ok (.invokevirtual 349, 3) := by decide +kernel
theorem dX12_again_120 : decode cX12_again 120 = .ok (.iload 5, 2) := by decide +kernel
theorem dX12_again_122 : decode cX12_again 122 = .ok (.aload_n 0, 1) := by decide +kernel
theorem dX12_again_123 : decode cX12_again 123 = .ok (.getfield 334, 3) := by decide +kernel
theorem dX12_again_126 : decode cX12_again 126 = .ok (.iadd, 1) := by decide +kernel
theorem dX12_again_127 : decode cX12_again 127 = .ok (.istore 5, 2) := by decide +kernel
theorem dX12_again_129 : decode cX12_again 129 = .ok (.goto (-21), 3) := by decide +kernel
theorem dX12_again_132 : decode cX12_again 132 = .ok (.iconst 0, 1) := by decide +kernel
theorem dX12_again_133 : decode cX12_again 133 = .ok (.istore 6, 2) := by decide +kernel
theorem dX12_again_135 : decode cX12_again 135 = .ok (.iconst 1, 1) := by decide +kernel
theorem dX12_again_136 : decode cX12_again 136 = .ok (.istore 7, 2) := by decide +kernel
theorem dX12_again_138 : decode cX12_again 138 = .ok (.iconst 0, 1) := by decide +kernel
theorem dX12_again_139 : decode cX12_again 139 = .ok (.istore 8, 2) := by decide +kernel
theorem dX12_again_141 : decode cX12_again 141 = .ok (.iload 8, 2) := by decide +kernel
theorem dX12_again_143 : decode cX12_again 143 = .ok (.aload_n 0, 1) := by decide +kernel
theorem dX12_again_144 : decode cX12_again 144 = .ok (.getfield 171, 3) := by decide +kernel
theorem dX12_again_147 : decode cX12_again 147 = .ok (.if_icmp .ge 58, 3) := by decide +kernel
theorem dX12_again_150 : decode cX12_again 150 = .ok (.iload 6, 2) := by decide +kernel
theorem dX12_again_152 : decode cX12_again 152 = .ok (.aload_n 0, 1) := by decide +kernel
theorem dX12_again_153 : decode cX12_again 153 = .ok (.getfield 40, 3) := by decide +kernel
theorem dX12_again_156 : decode cX12_again 156 = .ok (.iload 8, 2) := by decide +kernel
theorem dX12_again_158 : decode cX12_again 158 = .ok (.iaload, 1) := by decide +kernel
theorem dX12_again_159 : decode cX12_again 159 = .ok (.aload_n 0, 1) := by decide +kernel
theorem dX12_again_160 : decode cX12_again 160 = .ok (.getfield 168, 3) := by decide +kernel
theorem dX12_again_163 : decode cX12_again 163 = .ok (.if_icmp .ne 7, 3) := by decide +kernel
theorem dX12_again_166 : decode cX12_again 166 = .ok (.iconst 1, 1) := by decide +kernel
theorem dX12_again_167 : decode cX12_again 167 = .ok (.goto 4, 3) := by decide +kernel
theorem dX12_again_170 : decode cX12_again 170 = .ok (.iconst 0, 1) := by decide +kernel
theorem dX12_again_171 : decode cX12_again 171 = .ok (.iadd, 1) := by decide +kernel
theorem dX12_again_172 : decode cX12_again 172 = .ok (.istore 6, 2) := by decide +kernel
theorem dX12_again_174 : decode cX12_again 174 = .ok (.aload_n 0, 1) := by decide +kernel
theorem dX12_again_175 : decode cX12_again 175 = .ok (.getfield 40, 3) := by decide +kernel
theorem dX12_again_178 : decode cX12_again 178 = .ok (.iload 8, 2) := by decide +kernel
theorem dX12_again_180 : decode cX12_again 180 = .ok (.iaload, 1) := by decide +kernel
theorem dX12_again_181 : decode cX12_again 181 = .ok (.aload_n 0, 1) := by decide +kernel
theorem dX12_again_182 : decode cX12_again 182 = .ok (.getfield 134, 3) := by decide +kernel
theorem dX12_again_185 : decode cX12_again 185 = .ok (.iload 8, 2) := by decide +kernel
theorem dX12_again_187 : decode cX12_again 187 = .ok (.iaload, 1) := by decide +kernel
theorem dX12_again_188 : decode cX12_again 188 = .ok (.if_icmp .ne 8, 3) := by decide +kernel
theorem dX12_again_191 : decode cX12_again 191 = .ok (.iload 7, 2) := by decide +kernel
theorem dX12_again_193 : decode cX12_again 193 = .ok (.goto 4, 3) := by decide +kernel
theorem dX12_again_196 : decode cX12_again 196 = .ok (.iconst 0, 1) := by decide +kernel
theorem dX12_again_197 : decode cX12_again 197 = .ok (.istore 7, 2) := by decide +kernel
theorem dX12_again_199 : decode cX12_again 199 = .ok (.iinc 8 1, 3) := by decide +kernel
theorem dX12_again_202 : decode cX12_again 202 = .ok (.goto (-61), 3) := by decide +kernel
theorem dX12_again_205 : decode cX12_again 205 = .ok (.aload_n 0, 1) := by decide +kernel
theorem dX12_again_206 : decode cX12_again 206 = .ok (.invokevirtual 416, 3) := by decide +kernel
theorem dX12_again_209 : decode cX12_again 209 = .ok (.aload_n 0, 1) := by decide +kernel
theorem dX12_again_210 : decode cX12_again 210 = .ok (.iload_n 3, 1) := by decide +kernel
theorem dX12_again_211 : decode cX12_again 211 = .ok (.putfield 162, 3) := by decide +kernel
theorem dX12_again_214 : decode cX12_again 214 = .ok (.aload_n 0, 1) := by decide +kernel
theorem dX12_again_215 : decode cX12_again 215 = .ok (.iload 4, 2) := by decide +kernel
theorem dX12_again_217 : decode cX12_again 217 = .ok (.putfield 308, 3) := by decide +kernel
theorem dX12_again_220 : decode cX12_again 220 = .ok (.iload_n 1, 1) := by decide +kernel
theorem dX12_again_221 : decode cX12_again 221 = .ok (.ifCond .ne 8, 3) := by decide +kernel
theorem dX12_again_224 : decode cX12_again 224 = .ok (.iload 6, 2) := by decide +kernel
theorem dX12_again_226 : decode cX12_again 226 = .ok (.goto 15, 3) := by decide +kernel
theorem dX12_again_229 : decode cX12_again 229 = .ok (.iload_n 1, 1) := by decide +kernel
theorem dX12_again_230 : decode cX12_again 230 = .ok (.iconst 1, 1) := by decide +kernel
theorem dX12_again_231 : decode cX12_again 231 = .ok (.if_icmp .ne 8, 3) := by decide +kernel
theorem dX12_again_234 : decode cX12_again 234 = .ok (.iload 5, 2) := by decide +kernel
theorem dX12_again_236 : decode cX12_again 236 = .ok (.goto 5, 3) := by decide +kernel
theorem dX12_again_239 : decode cX12_again 239 = .ok (.iload 7, 2) := by decide +kernel
theorem dX12_again_241 : decode cX12_again 241 = .ok (.ireturn, 1) := by decide +kernel
theorem dX12_tapeNumber_0 : decode cX12_tapeNumber 0 = .ok (.iconst 0, 1) := by decide +kernel
theorem dX12_tapeNumber_1 : decode cX12_tapeNumber 1 = .ok (.istore_n 2, 1) := by decide +kernel
theorem dX12_tapeNumber_2 : decode cX12_tapeNumber 2 = .ok (.iconst 4, 1) := by decide +kernel
theorem dX12_tapeNumber_3 : decode cX12_tapeNumber 3 = .ok (.iload_n 1, 1) := by decide +kernel
theorem dX12_tapeNumber_4 : decode cX12_tapeNumber 4 = .ok (.imul, 1) := by decide +kernel
theorem dX12_tapeNumber_5 : decode cX12_tapeNumber 5 = .ok (.istore_n 3, 1) := by decide +kernel
theorem dX12_tapeNumber_6 : decode cX12_tapeNumber 6 = .ok (.iload_n 3, 1) := by decide +kernel
theorem dX12_tapeNumber_7 : decode cX12_tapeNumber 7 = .ok (.iconst 4, 1) := by decide +kernel
theorem dX12_tapeNumber_8 : decode cX12_tapeNumber 8 = .ok (.iload_n 1, 1) := by decide +kernel
theorem dX12_tapeNumber_9 : decode cX12_tapeNumber 9 = .ok (.imul, 1) := by decide +kernel
theorem dX12_tapeNumber_10 : decode cX12_tapeNumber 10 = .ok (.iconst 4, 1) := by decide +kernel
theorem dX12_tapeNumber_11 : decode cX12_tapeNumber 11 = .ok (.iadd, 1) := by decide +kernel
theorem dX12_tapeNumber_12 : decode cX12_tapeNumber 12 = .ok (.if_icmp .ge 25, 3) := by decide +kernel
theorem dX12_tapeNumber_15 : decode cX12_tapeNumber 15 = .ok (.iload_n 2, 1) := by decide +kernel
theorem dX12_tapeNumber_16 : decode cX12_tapeNumber 16 = .ok (.bipush 8, 2) := by decide +kernel
theorem dX12_tapeNumber_18 : decode cX12_tapeNumber 18 = .ok (.ishl, 1) := by decide +kernel
theorem dX12_tapeNumber_19 : decode cX12_tapeNumber 19 = .ok (.aload_n 0, 1) := by decide +kernel
theorem dX12_tapeNumber_20 : decode cX12_tapeNumber 20 = .ok (.getfield 58, 3) := by decide +kernel
theorem dX12_tapeNumber_23 : decode cX12_tapeNumber 23 = .ok (.iload_n 3, 1) := by decide +kernel
theorem dX12_tapeNumber_24 : decode cX12_tapeNumber 24 = .ok (.baload, 1) := by decide +kernel
theorem dX12_tapeNumber_25 : decode cX12_tapeNumber 25 = .ok (.sipush 255, 3) := by decide +kernel
theorem dX12_tapeNumber_28 : decode cX12_tapeNumber 28 = .ok (.iand, 1) := by decide +kernel
theorem dX12_tapeNumber_29 : decode cX12_tapeNumber 29 = .ok (.ior, 1) := by decide +kernel
theorem dX12_tapeNumber_30 : decode cX12_tapeNumber 30 = .ok (.istore_n 2, 1) := by decide +kernel
theorem dX12_tapeNumber_31 : decode cX12_tapeNumber 31 = .ok (.iinc 3 1, 3) := by decide +kernel
theorem dX12_tapeNumber_34 : decode cX12_tapeNumber 34 = .ok (.goto (-28), 3) := by decide +kernel
theorem dX12_tapeNumber_37 : decode cX12_tapeNumber 37 = .ok (.iload_n 2, 1) := by decide +kernel
theorem dX12_tapeNumber_38 : decode cX12_tapeNumber 38 = .ok (.ireturn, 1) := by decide +kernel
theorem dX12_check_0 : decode cX12_check 0 = .ok (.iload_n 1, 1) := by decide +kernel
theorem dX12_check_1 : decode cX12_check 1 = .ok (.ifCond .lt 14, 3) := by decide +kernel
theorem dX12_check_4 : decode cX12_check 4 = .ok (.iload_n 1, 1) := by decide +kernel
theorem dX12_check_5 : decode cX12_check 5 = .ok (.aload_n 0, 1) := by decide +kernel
theorem dX12_check_6 : decode cX12_check 6 = .ok (.getfield 186, 3) := by decide +kernel
theorem dX12_check_9 : decode cX12_check 9 = .ok (.bipush 12, 2) := by decide +kernel
theorem dX12_check_11 : decode cX12_check 11 = .ok (.idiv, 1) := by decide +kernel
theorem dX12_check_12 : decode cX12_check 12 = .ok (.if_icmp .le 6, 3) := by decide +kernel
theorem dX12_check_15 : decode cX12_check 15 = .ok (.bipush (-2), 2) := by decide +kernel
theorem dX12_check_17 : decode cX12_check 17 = .ok (.ireturn, 1) := by decide +kernel
theorem dX12_check_18 : decode cX12_check 18 = .ok (.aload_n 0, 1) := by decide +kernel
theorem dX12_check_19 : decode cX12_check 19 = .ok (.iconst 0, 1) := by decide +kernel
theorem dX12_check_20 : decode cX12_check 20 = .ok (.putfield 186, 3) := by decide +kernel
theorem dX12_check_23 : decode cX12_check 23 = .ok (.iconst 0, 1) := by decide +kernel
theorem dX12_check_24 : decode cX12_check 24 = .ok (.istore_n 2, 1) := by decide +kernel
theorem dX12_check_25 : decode cX12_check 25 = .ok (.iload_n 2, 1) := by decide +kernel
theorem dX12_check_26 : decode cX12_check 26 = .ok (.aload_n 0, 1) := by decide +kernel
theorem dX12_check_27 : decode cX12_check 27 = .ok (.getfield 171, 3) := by decide +kernel
theorem dX12_check_30 : decode cX12_check 30 = .ok (.if_icmp .ge 77, 3) := by decide +kernel
theorem dX12_check_33 : decode cX12_check 33 = .ok (.iload_n 2, 1) := by decide +kernel
theorem dX12_check_34 : decode cX12_check 34 = .ok (.iload_n 1, 1) := by decide +kernel
theorem dX12_check_35 : decode cX12_check 35 = .ok (.if_icmp .eq 14, 3) := by decide +kernel
theorem dX12_check_38 : decode cX12_check 38 = .ok (.aload_n 0, 1) := by decide +kernel
theorem dX12_check_39 : decode cX12_check 39 = .ok (.iconst 3, 1) := by decide +kernel
theorem dX12_check_40 : decode cX12_check 40 = .ok (.iload_n 2, 1) := by decide +kernel
theorem dX12_check_41 : decode cX12_check 41 = .ok (.imul, 1) := by decide +kernel
theorem dX12_check_42 : decode cX12_check 42 = .ok (.invokevirtual 419, 3) := by decide +kernel
theorem dX12_check_45 : decode cX12_check 45 = .ok (.iload_n 2, 1) := by decide +kernel
theorem dX12_check_46 : decode cX12_check 46 = .ok (.if_icmp .eq 7, 3) := by decide +kernel
theorem dX12_check_49 : decode cX12_check 49 = .ok (.iconst 3, 1) := by decide +kernel
theorem dX12_check_50 : decode cX12_check 50 = .ok (.iload_n 2, 1) := by decide +kernel
theorem dX12_check_51 : decode cX12_check 51 = .ok (.imul, 1) := by decide +kernel
theorem dX12_check_52 : decode cX12_check 52 = .ok (.ireturn, 1) := by decide +kernel
theorem dX12_check_53 : decode cX12_check 53 = .ok (.aload_n 0, 1) := by decide +kernel
theorem dX12_check_54 : decode cX12_check 54 = .ok (.iconst 3, 1) := by decide +kernel
theorem dX12_check_55 : decode cX12_check 55 = .ok (.iload_n 2, 1) := by decide +kernel
theorem dX12_check_56 : decode cX12_check 56 = .ok (.imul, 1) := by decide +kernel
theorem dX12_check_57 : decode cX12_check 57 = .ok (.iconst 1, 1) := by decide +kernel
theorem dX12_check_58 : decode cX12_check 58 = .ok (.iadd, 1) := by decide +kernel
theorem dX12_check_59 : decode cX12_check 59 = .ok (.invokevirtual 419, 3) := by decide +kernel
theorem dX12_check_62 : decode cX12_check 62 = .ok (.aload_n 0, 1) := by decide +kernel
theorem dX12_check_63 : decode cX12_check 63 = .ok (.getfield 40, 3) := by decide +kernel
theorem dX12_check_66 : decode cX12_check 66 = .ok (.iload_n 2, 1) := by decide +kernel
theorem dX12_check_67 : decode cX12_check 67 = .ok (.iaload, 1) := by decide +kernel
theorem dX12_check_68 : decode cX12_check 68 = .ok (.if_icmp .eq 9, 3) := by decide +kernel
theorem dX12_check_71 : decode cX12_check 71 = .ok (.iconst 3, 1) := by decide +kernel
theorem dX12_check_72 : decode cX12_check 72 = .ok (.iload_n 2, 1) := by decide +kernel
theorem dX12_check_73 : decode cX12_check 73 = .ok (.imul, 1) := by decide +kernel
theorem dX12_check_74 : decode cX12_check 74 = .ok (.iconst 1, 1) := by decide +kernel
theorem dX12_check_75 : decode cX12_check 75 = .ok (.iadd, 1) := by decide +kernel
theorem dX12_check_76 : decode cX12_check 76 = .ok (.ireturn, 1) := by decide +kernel
theorem dX12_check_77 : decode cX12_check 77 = .ok (.aload_n 0, 1) := by decide +kernel
theorem dX12_check_78 : decode cX12_check 78 = .ok (.iconst 3, 1) := by decide +kernel
theorem dX12_check_79 : decode cX12_check 79 = .ok (.iload_n 2, 1) := by decide +kernel
theorem dX12_check_80 : decode cX12_check 80 = .ok (.imul, 1) := by decide +kernel
theorem dX12_check_81 : decode cX12_check 81 = .ok (.iconst 2, 1) := by decide +kernel
theorem dX12_check_82 : decode cX12_check 82 = .ok (.iadd, 1) := by decide +kernel
theorem dX12_check_83 : decode cX12_check 83 = .ok (.invokevirtual 419, 3) := by decide +kernel
theorem dX12_check_86 : decode cX12_check 86 = .ok (.aload_n 0, 1) := by decide +kernel
theorem dX12_check_87 : decode cX12_check 87 = .ok (.getfield 43, 3) := by decide +kernel
theorem dX12_check_90 : decode cX12_check 90 = .ok (.iload_n 2, 1) := by decide +kernel
theorem dX12_check_91 : decode cX12_check 91 = .ok (.iaload, 1) := by decide +kernel
theorem dX12_check_92 : decode cX12_check 92 = .ok (.if_icmp .eq 9, 3) := by decide +kernel
theorem dX12_check_95 : decode cX12_check 95 = .ok (.iconst 3, 1) := by decide +kernel
theorem dX12_check_96 : decode cX12_check 96 = .ok (.iload_n 2, 1) := by decide +kernel
theorem dX12_check_97 : decode cX12_check 97 = .ok (.imul, 1) := by decide +kernel
theorem dX12_check_98 : decode cX12_check 98 = .ok (.iconst 2, 1) := by decide +kernel
theorem dX12_check_99 : decode cX12_check 99 = .ok (.iadd, 1) := by decide +kernel
theorem dX12_check_100 : decode cX12_check 100 = .ok (.ireturn, 1) := by decide +kernel
theorem dX12_check_101 : decode cX12_check 101 = .ok (.iinc 2 1, 3) := by decide +kernel
theorem dX12_check_104 : decode cX12_check 104 = .ok (.goto (-79), 3) := by decide +kernel
theorem dX12_check_107 : decode cX12_check 107 = .ok (.aload_n 0, 1) := by decide +kernel
theorem dX12_check_108 : decode cX12_check 108 = .ok (.getfield 171, 3) := by decide +kernel
theorem dX12_check_111 : decode cX12_check 111 = .ok (.iload_n 1, 1) := by decide +kernel
theorem dX12_check_112 : decode cX12_check 112 = .ok (.if_icmp .ge 12, 3) := by decide +kernel
theorem dX12_check_115 : decode cX12_check 115 = .ok (.iconst 3, 1) := by decide +kernel
theorem dX12_check_116 : decode cX12_check 116 = .ok (.aload_n 0, 1) := by decide +kernel
theorem dX12_check_117 : decode cX12_check 117 = .ok (.getfield 171, 3) := by decide +kernel
theorem dX12_check_120 : decode cX12_check 120 = .ok (.imul, 1) := by decide +kernel
theorem dX12_check_121 : decode cX12_check 121 = .ok (.goto 4, 3) := by decide +kernel
theorem dX12_check_124 : decode cX12_check 124 = .ok (.iconst (-1), 1) := by decide +kernel
theorem dX12_check_125 : decode cX12_check 125 = .ok (.ireturn, 1) := by decide +kernel
theorem dX12_count_0 : decode cX12_count 0 = .ok (.iload_n 1, 1) := by decide +kernel
theorem dX12_count_1 : decode cX12_count 1 = .ok (.tableswitch 117 0 10 #[59, 64, 69, 74, 79, 84, 89, 94, 99, 104, 112], 59) := by decide +kernel
theorem dX12_count_60 : decode cX12_count 60 = .ok (.aload_n 0, 1) := by decide +kernel
theorem dX12_count_61 : decode cX12_count 61 = .ok (.getfield 183, 3) := by decide +kernel
theorem dX12_count_64 : decode cX12_count 64 = .ok (.ireturn, 1) := by decide +kernel
theorem dX12_count_65 : decode cX12_count 65 = .ok (.aload_n 0, 1) := by decide +kernel
theorem dX12_count_66 : decode cX12_count 66 = .ok (.getfield 165, 3) := by decide +kernel
theorem dX12_count_69 : decode cX12_count 69 = .ok (.ireturn, 1) := by decide +kernel
theorem dX12_count_70 : decode cX12_count 70 = .ok (.aload_n 0, 1) := by decide +kernel
theorem dX12_count_71 : decode cX12_count 71 = .ok (.getfield 168, 3) := by decide +kernel
theorem dX12_count_74 : decode cX12_count 74 = .ok (.ireturn, 1) := by decide +kernel
theorem dX12_count_75 : decode cX12_count 75 = .ok (.aload_n 0, 1) := by decide +kernel
theorem dX12_count_76 : decode cX12_count 76 = .ok (.getfield 171, 3) := by decide +kernel
theorem dX12_count_79 : decode cX12_count 79 = .ok (.ireturn, 1) := by decide +kernel
theorem dX12_count_80 : decode cX12_count 80 = .ok (.aload_n 0, 1) := by decide +kernel
theorem dX12_count_81 : decode cX12_count 81 = .ok (.getfield 186, 3) := by decide +kernel
theorem dX12_count_84 : decode cX12_count 84 = .ok (.ireturn, 1) := by decide +kernel
theorem dX12_count_85 : decode cX12_count 85 = .ok (.aload_n 0, 1) := by decide +kernel
theorem dX12_count_86 : decode cX12_count 86 = .ok (.getfield 374, 3) := by decide +kernel
theorem dX12_count_89 : decode cX12_count 89 = .ok (.ireturn, 1) := by decide +kernel
theorem dX12_count_90 : decode cX12_count 90 = .ok (.aload_n 0, 1) := by decide +kernel
theorem dX12_count_91 : decode cX12_count 91 = .ok (.getfield 389, 3) := by decide +kernel
theorem dX12_count_94 : decode cX12_count 94 = .ok (.ireturn, 1) := by decide +kernel
theorem dX12_count_95 : decode cX12_count 95 = .ok (.aload_n 0, 1) := by decide +kernel
theorem dX12_count_96 : decode cX12_count 96 = .ok (.getfield 395, 3) := by decide +kernel
theorem dX12_count_99 : decode cX12_count 99 = .ok (.ireturn, 1) := by decide +kernel
theorem dX12_count_100 : decode cX12_count 100 = .ok (.aload_n 0, 1) := by decide +kernel
theorem dX12_count_101 : decode cX12_count 101 = .ok (.getfield 162, 3) := by decide +kernel
theorem dX12_count_104 : decode cX12_count 104 = .ok (.ireturn, 1) := by decide +kernel
theorem dX12_count_105 : decode cX12_count 105 = .ok (.aload_n 0, 1) := by decide +kernel
theorem dX12_count_106 : decode cX12_count 106 = .ok (.getfield 83, 3) := by decide +kernel
theorem dX12_count_109 : decode cX12_count 109 = .ok (.bipush 10, 2) := by decide +kernel
theorem dX12_count_111 : decode cX12_count 111 = .ok (.iaload, 1) := by decide +kernel
theorem dX12_count_112 : decode cX12_count 112 = .ok (.ireturn, 1) := by decide +kernel
theorem dX12_count_113 : decode cX12_count 113 = .ok (.aload_n 0, 1) := by decide +kernel
theorem dX12_count_114 : decode cX12_count 114 = .ok (.getfield 308, 3) := by decide +kernel
theorem dX12_count_117 : decode cX12_count 117 = .ok (.ireturn, 1) := by decide +kernel
theorem dX12_count_118 : decode cX12_count 118 = .ok (.iload_n 1, 1) := by decide +kernel
theorem dX12_count_119 : decode cX12_count 119 = .ok (.bipush 20, 2) := by decide +kernel
theorem dX12_count_121 : decode cX12_count 121 = .ok (.bipush 19, 2) := by decide +kernel
theorem dX12_count_123 : decode cX12_count 123 = .ok (.aload_n 0, 1) := by decide +kernel
theorem dX12_count_124 : decode cX12_count 124 = .ok (.getfield 165, 3) := by decide +kernel
theorem dX12_count_127 : decode cX12_count 127 = .ok (.iadd, 1) := by decide +kernel
theorem dX12_count_128 : decode cX12_count 128 = .ok (.invokestatic 174, 3) := by decide +kernel
theorem dX12_count_131 : decode cX12_count 131 = .ok (.ifCond .eq 15, 3) := by decide +kernel
theorem dX12_count_134 : decode cX12_count 134 = .ok (.aload_n 0, 1) := by decide +kernel
theorem dX12_count_135 : decode cX12_count 135 = .ok (.getfield 83, 3) := by decide +kernel
theorem dX12_count_138 : decode cX12_count 138 = .ok (.iload_n 1, 1) := by decide +kernel
theorem dX12_count_139 : decode cX12_count 139 = .ok (.bipush 20, 2) := by decide +kernel
theorem dX12_count_141 : decode cX12_count 141 = .ok (.isub, 1) := by decide +kernel
theorem dX12_count_142 : decode cX12_count 142 = .ok (.iaload, 1) := by decide +kernel
theorem dX12_count_143 : decode cX12_count 143 = .ok (.goto 4, 3) := by decide +kernel
theorem dX12_count_146 : decode cX12_count 146 = .ok (.iconst (-1), 1) := by decide +kernel
theorem dX12_count_147 : decode cX12_count 147 = .ok (.ireturn, 1) := by decide +kernel
