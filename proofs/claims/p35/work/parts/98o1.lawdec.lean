theorem dL_at_0 : decode cL_at 0 = .ok (.iload_n 1, 1) := by decide +kernel
theorem dL_at_1 : decode cL_at 1 = .ok (.aload_n 0, 1) := by decide +kernel
theorem dL_at_2 : decode cL_at 2 = .ok (.arraylength, 1) := by decide +kernel
theorem dL_at_3 : decode cL_at 3 = .ok (.if_icmp .ge 9, 3) := by decide +kernel
theorem dL_at_6 : decode cL_at 6 = .ok (.aload_n 0, 1) := by decide +kernel
theorem dL_at_7 : decode cL_at 7 = .ok (.iload_n 1, 1) := by decide +kernel
theorem dL_at_8 : decode cL_at 8 = .ok (.iaload, 1) := by decide +kernel
theorem dL_at_9 : decode cL_at 9 = .ok (.goto 4, 3) := by decide +kernel
theorem dL_at_12 : decode cL_at 12 = .ok (.iconst 0, 1) := by decide +kernel
theorem dL_at_13 : decode cL_at 13 = .ok (.ireturn, 1) := by decide +kernel
theorem dL_some_0 : decode cL_some 0 = .ok (.iload_n 0, 1) := by decide +kernel
theorem dL_some_1 : decode cL_some 1 = .ok (.iload_n 1, 1) := by decide +kernel
theorem dL_some_2 : decode cL_some 2 = .ok (.irem, 1) := by decide +kernel
theorem dL_some_3 : decode cL_some 3 = .ok (.istore_n 2, 1) := by decide +kernel
theorem dL_some_4 : decode cL_some 4 = .ok (.iload_n 2, 1) := by decide +kernel
theorem dL_some_5 : decode cL_some 5 = .ok (.ifCond .ge 9, 3) := by decide +kernel
theorem dL_some_8 : decode cL_some 8 = .ok (.iload_n 2, 1) := by decide +kernel
theorem dL_some_9 : decode cL_some 9 = .ok (.iload_n 1, 1) := by decide +kernel
theorem dL_some_10 : decode cL_some 10 = .ok (.iadd, 1) := by decide +kernel
theorem dL_some_11 : decode cL_some 11 = .ok (.goto 4, 3) := by decide +kernel
theorem dL_some_14 : decode cL_some 14 = .ok (.iload_n 2, 1) := by decide +kernel
theorem dL_some_15 : decode cL_some 15 = .ok (.ireturn, 1) := by decide +kernel
theorem dL_reads_0 : decode cL_reads 0 = .ok (.iconst 0, 1) := by decide +kernel
theorem dL_reads_1 : decode cL_reads 1 = .ok (.istore_n 2, 1) := by decide +kernel
theorem dL_reads_2 : decode cL_reads 2 = .ok (.iload_n 2, 1) := by decide +kernel
theorem dL_reads_3 : decode cL_reads 3 = .ok (.aload_n 1, 1) := by decide +kernel
theorem dL_reads_4 : decode cL_reads 4 = .ok (.invokevirtual 7, 3) := by decide +kernel
theorem dL_reads_7 : decode cL_reads 7 = .ok (.if_icmp .ge 28, 3) := by decide +kernel
theorem dL_reads_10 : decode cL_reads 10 = .ok (.aload_n 0, 1) := by decide +kernel
theorem dL_reads_11 : decode cL_reads 11 = .ok (.aload_n 1, 1) := by decide +kernel
theorem dL_reads_12 : decode cL_reads 12 = .ok (.iload_n 2, 1) := by decide +kernel
theorem dL_reads_13 : decode cL_reads 13 = .ok (.invokevirtual 13, 3) := by decide +kernel
theorem dL_reads_16 : decode cL_reads 16 = .ok (.invokevirtual 17, 3) := by decide +kernel
theorem dL_reads_19 : decode cL_reads 19 = .ok (.iload_n 2, 1) := by decide +kernel
theorem dL_reads_20 : decode cL_reads 20 = .ok (.iconst 1, 1) := by decide +kernel
theorem dL_reads_21 : decode cL_reads 21 = .ok (.iadd, 1) := by decide +kernel
theorem dL_reads_22 : decode cL_reads 22 = .ok (.if_icmp .eq 7, 3) := by decide +kernel
theorem dL_reads_25 : decode cL_reads 25 = .ok (.sipush (-9999), 3) := by decide +kernel
theorem dL_reads_28 : decode cL_reads 28 = .ok (.ireturn, 1) := by decide +kernel
theorem dL_reads_29 : decode cL_reads 29 = .ok (.iinc 2 1, 3) := by decide +kernel
theorem dL_reads_32 : decode cL_reads 32 = .ok (.goto (-30), 3) := by decide +kernel
theorem dL_reads_35 : decode cL_reads 35 = .ok (.aload_n 0, 1) := by decide +kernel
theorem dL_reads_36 : decode cL_reads 36 = .ok (.invokevirtual 23, 3) := by decide +kernel
theorem dL_reads_39 : decode cL_reads 39 = .ok (.ireturn, 1) := by decide +kernel
theorem dL_is_0 : decode cL_is 0 = .ok (.aload_n 0, 1) := by decide +kernel
theorem dL_is_1 : decode cL_is 1 = .ok (.iconst 0, 1) := by decide +kernel
theorem dL_is_2 : decode cL_is 2 = .ok (.iconst 0, 1) := by decide +kernel
theorem dL_is_3 : decode cL_is 3 = .ok (.invokevirtual 26, 3) := by decide +kernel
theorem dL_is_6 : decode cL_is 6 = .ok (.iload_n 1, 1) := by decide +kernel
theorem dL_is_7 : decode cL_is 7 = .ok (.if_icmp .ne 39, 3) := by decide +kernel
theorem dL_is_10 : decode cL_is 10 = .ok (.aload_n 0, 1) := by decide +kernel
theorem dL_is_11 : decode cL_is 11 = .ok (.iconst 0, 1) := by decide +kernel
theorem dL_is_12 : decode cL_is 12 = .ok (.iconst 1, 1) := by decide +kernel
theorem dL_is_13 : decode cL_is 13 = .ok (.invokevirtual 26, 3) := by decide +kernel
theorem dL_is_16 : decode cL_is 16 = .ok (.iload_n 2, 1) := by decide +kernel
theorem dL_is_17 : decode cL_is 17 = .ok (.if_icmp .ne 29, 3) := by decide +kernel
theorem dL_is_20 : decode cL_is 20 = .ok (.aload_n 0, 1) := by decide +kernel
theorem dL_is_21 : decode cL_is 21 = .ok (.iconst 1, 1) := by decide +kernel
theorem dL_is_22 : decode cL_is 22 = .ok (.iconst 0, 1) := by decide +kernel
theorem dL_is_23 : decode cL_is 23 = .ok (.invokevirtual 26, 3) := by decide +kernel
theorem dL_is_26 : decode cL_is 26 = .ok (.bipush (-15), 2) := by decide +kernel
theorem dL_is_28 : decode cL_is 28 = .ok (.if_icmp .ne 18, 3) := by decide +kernel
theorem dL_is_31 : decode cL_is 31 = .ok (.aload_n 0, 1) := by decide +kernel
theorem dL_is_32 : decode cL_is 32 = .ok (.iconst 1, 1) := by decide +kernel
theorem dL_is_33 : decode cL_is 33 = .ok (.iconst 1, 1) := by decide +kernel
theorem dL_is_34 : decode cL_is 34 = .ok (.invokevirtual 26, 3) := by decide +kernel
theorem dL_is_37 : decode cL_is 37 = .ok (.bipush (-15), 2) := by decide +kernel
theorem dL_is_39 : decode cL_is 39 = .ok (.if_icmp .ne 7, 3) := by decide +kernel
theorem dL_is_42 : decode cL_is 42 = .ok (.iconst 1, 1) := by decide +kernel
theorem dL_is_43 : decode cL_is 43 = .ok (.goto 4, 3) := by decide +kernel
theorem dL_is_46 : decode cL_is 46 = .ok (.iconst 0, 1) := by decide +kernel
theorem dL_is_47 : decode cL_is 47 = .ok (.ireturn, 1) := by decide +kernel
theorem dL_is__0 : decode cL_is_ 0 = .ok (.aload_n 0, 1) := by decide +kernel
theorem dL_is__1 : decode cL_is_ 1 = .ok (.iconst 0, 1) := by decide +kernel
theorem dL_is__2 : decode cL_is_ 2 = .ok (.iconst 0, 1) := by decide +kernel
theorem dL_is__3 : decode cL_is_ 3 = .ok (.invokevirtual 26, 3) := by decide +kernel
theorem dL_is__6 : decode cL_is_ 6 = .ok (.iload_n 1, 1) := by decide +kernel
theorem dL_is__7 : decode cL_is_ 7 = .ok (.if_icmp .ne 49, 3) := by decide +kernel
theorem dL_is__10 : decode cL_is_ 10 = .ok (.aload_n 0, 1) := by decide +kernel
theorem dL_is__11 : decode cL_is_ 11 = .ok (.iconst 0, 1) := by decide +kernel
theorem dL_is__12 : decode cL_is_ 12 = .ok (.iconst 1, 1) := by decide +kernel
theorem dL_is__13 : decode cL_is_ 13 = .ok (.invokevirtual 26, 3) := by decide +kernel
theorem dL_is__16 : decode cL_is_ 16 = .ok (.iload_n 2, 1) := by decide +kernel
theorem dL_is__17 : decode cL_is_ 17 = .ok (.if_icmp .ne 39, 3) := by decide +kernel
theorem dL_is__20 : decode cL_is_ 20 = .ok (.aload_n 0, 1) := by decide +kernel
theorem dL_is__21 : decode cL_is_ 21 = .ok (.iconst 1, 1) := by decide +kernel
theorem dL_is__22 : decode cL_is_ 22 = .ok (.iconst 0, 1) := by decide +kernel
theorem dL_is__23 : decode cL_is_ 23 = .ok (.invokevirtual 26, 3) := by decide +kernel
theorem dL_is__26 : decode cL_is_ 26 = .ok (.iload_n 3, 1) := by decide +kernel
theorem dL_is__27 : decode cL_is_ 27 = .ok (.if_icmp .ne 29, 3) := by decide +kernel
theorem dL_is__30 : decode cL_is_ 30 = .ok (.aload_n 0, 1) := by decide +kernel
theorem dL_is__31 : decode cL_is_ 31 = .ok (.iconst 1, 1) := by decide +kernel
theorem dL_is__32 : decode cL_is_ 32 = .ok (.iconst 1, 1) := by decide +kernel
theorem dL_is__33 : decode cL_is_ 33 = .ok (.invokevirtual 26, 3) := by decide +kernel
theorem dL_is__36 : decode cL_is_ 36 = .ok (.iload 4, 2) := by decide +kernel
theorem dL_is__38 : decode cL_is_ 38 = .ok (.if_icmp .ne 18, 3) := by decide +kernel
theorem dL_is__41 : decode cL_is_ 41 = .ok (.aload_n 0, 1) := by decide +kernel
theorem dL_is__42 : decode cL_is_ 42 = .ok (.iconst 2, 1) := by decide +kernel
theorem dL_is__43 : decode cL_is_ 43 = .ok (.iconst 0, 1) := by decide +kernel
theorem dL_is__44 : decode cL_is_ 44 = .ok (.invokevirtual 26, 3) := by decide +kernel
theorem dL_is__47 : decode cL_is_ 47 = .ok (.bipush (-15), 2) := by decide +kernel
theorem dL_is__49 : decode cL_is_ 49 = .ok (.if_icmp .ne 7, 3) := by decide +kernel
theorem dL_is__52 : decode cL_is_ 52 = .ok (.iconst 1, 1) := by decide +kernel
theorem dL_is__53 : decode cL_is_ 53 = .ok (.goto 4, 3) := by decide +kernel
theorem dL_is__56 : decode cL_is_ 56 = .ok (.iconst 0, 1) := by decide +kernel
theorem dL_is__57 : decode cL_is_ 57 = .ok (.ireturn, 1) := by decide +kernel
theorem dL_makes_0 : decode cL_makes 0 = .ok (.iconst 0, 1) := by decide +kernel
theorem dL_makes_1 : decode cL_makes 1 = .ok (.istore_n 2, 1) := by decide +kernel
theorem dL_makes_2 : decode cL_makes 2 = .ok (.iload_n 2, 1) := by decide +kernel
theorem dL_makes_3 : decode cL_makes 3 = .ok (.iconst 3, 1) := by decide +kernel
theorem dL_makes_4 : decode cL_makes 4 = .ok (.if_icmp .ge 23, 3) := by decide +kernel
theorem dL_makes_7 : decode cL_makes 7 = .ok (.aload_n 0, 1) := by decide +kernel
theorem dL_makes_8 : decode cL_makes 8 = .ok (.iconst 0, 1) := by decide +kernel
theorem dL_makes_9 : decode cL_makes 9 = .ok (.iconst 1, 1) := by decide +kernel
theorem dL_makes_10 : decode cL_makes 10 = .ok (.iload_n 2, 1) := by decide +kernel
theorem dL_makes_11 : decode cL_makes 11 = .ok (.iadd, 1) := by decide +kernel
theorem dL_makes_12 : decode cL_makes 12 = .ok (.invokevirtual 33, 3) := by decide +kernel
theorem dL_makes_15 : decode cL_makes 15 = .ok (.iload_n 2, 1) := by decide +kernel
theorem dL_makes_16 : decode cL_makes 16 = .ok (.if_icmp .eq 5, 3) := by decide +kernel
theorem dL_makes_19 : decode cL_makes 19 = .ok (.iconst 0, 1) := by decide +kernel
theorem dL_makes_20 : decode cL_makes 20 = .ok (.ireturn, 1) := by decide +kernel
theorem dL_makes_21 : decode cL_makes 21 = .ok (.iinc 2 1, 3) := by decide +kernel
theorem dL_makes_24 : decode cL_makes 24 = .ok (.goto (-22), 3) := by decide +kernel
theorem dL_makes_27 : decode cL_makes 27 = .ok (.iconst 3, 1) := by decide +kernel
theorem dL_makes_28 : decode cL_makes 28 = .ok (.istore_n 2, 1) := by decide +kernel
theorem dL_makes_29 : decode cL_makes 29 = .ok (.iload_n 2, 1) := by decide +kernel
theorem dL_makes_30 : decode cL_makes 30 = .ok (.bipush 9, 2) := by decide +kernel
theorem dL_makes_32 : decode cL_makes 32 = .ok (.if_icmp .ge 44, 3) := by decide +kernel
theorem dL_makes_35 : decode cL_makes 35 = .ok (.aload_n 0, 1) := by decide +kernel
theorem dL_makes_36 : decode cL_makes 36 = .ok (.iconst 1, 1) := by decide +kernel
theorem dL_makes_37 : decode cL_makes 37 = .ok (.aload_n 1, 1) := by decide +kernel
theorem dL_makes_38 : decode cL_makes 38 = .ok (.iload_n 2, 1) := by decide +kernel
theorem dL_makes_39 : decode cL_makes 39 = .ok (.invokestatic 37, 3) := by decide +kernel
theorem dL_makes_42 : decode cL_makes 42 = .ok (.bipush 6, 2) := by decide +kernel
theorem dL_makes_44 : decode cL_makes 44 = .ok (.invokestatic 43, 3) := by decide +kernel
theorem dL_makes_47 : decode cL_makes 47 = .ok (.iadd, 1) := by decide +kernel
theorem dL_makes_48 : decode cL_makes 48 = .ok (.iconst 1, 1) := by decide +kernel
theorem dL_makes_49 : decode cL_makes 49 = .ok (.aload_n 1, 1) := by decide +kernel
theorem dL_makes_50 : decode cL_makes 50 = .ok (.iload_n 2, 1) := by decide +kernel
theorem dL_makes_51 : decode cL_makes 51 = .ok (.invokestatic 37, 3) := by decide +kernel
theorem dL_makes_54 : decode cL_makes 54 = .ok (.iconst 3, 1) := by decide +kernel
theorem dL_makes_55 : decode cL_makes 55 = .ok (.ishr, 1) := by decide +kernel
theorem dL_makes_56 : decode cL_makes 56 = .ok (.iconst 4, 1) := by decide +kernel
theorem dL_makes_57 : decode cL_makes 57 = .ok (.invokestatic 43, 3) := by decide +kernel
theorem dL_makes_60 : decode cL_makes 60 = .ok (.iadd, 1) := by decide +kernel
theorem dL_makes_61 : decode cL_makes 61 = .ok (.invokevirtual 33, 3) := by decide +kernel
theorem dL_makes_64 : decode cL_makes 64 = .ok (.iload_n 2, 1) := by decide +kernel
theorem dL_makes_65 : decode cL_makes 65 = .ok (.if_icmp .eq 5, 3) := by decide +kernel
theorem dL_makes_68 : decode cL_makes 68 = .ok (.iconst 0, 1) := by decide +kernel
theorem dL_makes_69 : decode cL_makes 69 = .ok (.ireturn, 1) := by decide +kernel
theorem dL_makes_70 : decode cL_makes 70 = .ok (.iinc 2 1, 3) := by decide +kernel
theorem dL_makes_73 : decode cL_makes 73 = .ok (.goto (-44), 3) := by decide +kernel
theorem dL_makes_76 : decode cL_makes 76 = .ok (.iconst 3, 1) := by decide +kernel
theorem dL_makes_77 : decode cL_makes 77 = .ok (.istore_n 2, 1) := by decide +kernel
theorem dL_makes_78 : decode cL_makes 78 = .ok (.iload_n 2, 1) := by decide +kernel
theorem dL_makes_79 : decode cL_makes 79 = .ok (.bipush 9, 2) := by decide +kernel
theorem dL_makes_81 : decode cL_makes 81 = .ok (.if_icmp .ge 84, 3) := by decide +kernel
theorem dL_makes_84 : decode cL_makes 84 = .ok (.iconst 0, 1) := by decide +kernel
theorem dL_makes_85 : decode cL_makes 85 = .ok (.istore_n 3, 1) := by decide +kernel
theorem dL_makes_86 : decode cL_makes 86 = .ok (.iload_n 3, 1) := by decide +kernel
theorem dL_makes_87 : decode cL_makes 87 = .ok (.iconst 3, 1) := by decide +kernel
theorem dL_makes_88 : decode cL_makes 88 = .ok (.if_icmp .ge 71, 3) := by decide +kernel
theorem dL_makes_91 : decode cL_makes 91 = .ok (.aload_n 1, 1) := by decide +kernel
theorem dL_makes_92 : decode cL_makes 92 = .ok (.bipush 9, 2) := by decide +kernel
theorem dL_makes_94 : decode cL_makes 94 = .ok (.iload_n 2, 1) := by decide +kernel
theorem dL_makes_95 : decode cL_makes 95 = .ok (.iadd, 1) := by decide +kernel
theorem dL_makes_96 : decode cL_makes 96 = .ok (.invokestatic 37, 3) := by decide +kernel
theorem dL_makes_99 : decode cL_makes 99 = .ok (.iconst 4, 1) := by decide +kernel
theorem dL_makes_100 : decode cL_makes 100 = .ok (.iload_n 3, 1) := by decide +kernel
theorem dL_makes_101 : decode cL_makes 101 = .ok (.imul, 1) := by decide +kernel
theorem dL_makes_102 : decode cL_makes 102 = .ok (.ishr, 1) := by decide +kernel
theorem dL_makes_103 : decode cL_makes 103 = .ok (.istore 4, 2) := by decide +kernel
theorem dL_makes_105 : decode cL_makes 105 = .ok (.aload_n 0, 1) := by decide +kernel
theorem dL_makes_106 : decode cL_makes 106 = .ok (.iload_n 2, 1) := by decide +kernel
theorem dL_makes_107 : decode cL_makes 107 = .ok (.iload_n 3, 1) := by decide +kernel
theorem dL_makes_108 : decode cL_makes 108 = .ok (.iload 4, 2) := by decide +kernel
theorem dL_makes_110 : decode cL_makes 110 = .ok (.bipush 15, 2) := by decide +kernel
theorem dL_makes_112 : decode cL_makes 112 = .ok (.iand, 1) := by decide +kernel
theorem dL_makes_113 : decode cL_makes 113 = .ok (.ifCond .ne 15, 3) := by decide +kernel
theorem dL_makes_116 : decode cL_makes 116 = .ok (.iload 4, 2) := by decide +kernel
theorem dL_makes_118 : decode cL_makes 118 = .ok (.iconst 4, 1) := by decide +kernel
theorem dL_makes_119 : decode cL_makes 119 = .ok (.ishr, 1) := by decide +kernel
theorem dL_makes_120 : decode cL_makes 120 = .ok (.bipush 9, 2) := by decide +kernel
theorem dL_makes_122 : decode cL_makes 122 = .ok (.invokestatic 43, 3) := by decide +kernel
theorem dL_makes_125 : decode cL_makes 125 = .ok (.goto 9, 3) := by decide +kernel
theorem dL_makes_128 : decode cL_makes 128 = .ok (.iload 4, 2) := by decide +kernel
theorem dL_makes_130 : decode cL_makes 130 = .ok (.iload_n 2, 1) := by decide +kernel
theorem dL_makes_131 : decode cL_makes 131 = .ok (.invokestatic 43, 3) := by decide +kernel
theorem dL_makes_134 : decode cL_makes 134 = .ok (.invokevirtual 46, 3) := by decide +kernel
theorem dL_makes_137 : decode cL_makes 137 = .ok (.istore 5, 2) := by decide +kernel
theorem dL_makes_139 : decode cL_makes 139 = .ok (.iload 5, 2) := by decide +kernel
theorem dL_makes_141 : decode cL_makes 141 = .ok (.ifCond .ge 12, 3) := by decide +kernel
theorem dL_makes_144 : decode cL_makes 144 = .ok (.iload 5, 2) := by decide +kernel
theorem dL_makes_146 : decode cL_makes 146 = .ok (.bipush (-14), 2) := by decide +kernel
theorem dL_makes_148 : decode cL_makes 148 = .ok (.if_icmp .eq 5, 3) := by decide +kernel
theorem dL_makes_151 : decode cL_makes 151 = .ok (.iconst 0, 1) := by decide +kernel
theorem dL_makes_152 : decode cL_makes 152 = .ok (.ireturn, 1) := by decide +kernel
theorem dL_makes_153 : decode cL_makes 153 = .ok (.iinc 3 1, 3) := by decide +kernel
theorem dL_makes_156 : decode cL_makes 156 = .ok (.goto (-70), 3) := by decide +kernel
theorem dL_makes_159 : decode cL_makes 159 = .ok (.iinc 2 1, 3) := by decide +kernel
theorem dL_makes_162 : decode cL_makes 162 = .ok (.goto (-84), 3) := by decide +kernel
theorem dL_makes_165 : decode cL_makes 165 = .ok (.iconst 0, 1) := by decide +kernel
theorem dL_makes_166 : decode cL_makes 166 = .ok (.istore_n 2, 1) := by decide +kernel
theorem dL_makes_167 : decode cL_makes 167 = .ok (.iload_n 2, 1) := by decide +kernel
theorem dL_makes_168 : decode cL_makes 168 = .ok (.iconst 3, 1) := by decide +kernel
theorem dL_makes_169 : decode cL_makes 169 = .ok (.if_icmp .ge 32, 3) := by decide +kernel
theorem dL_makes_172 : decode cL_makes 172 = .ok (.aload_n 1, 1) := by decide +kernel
theorem dL_makes_173 : decode cL_makes 173 = .ok (.iload_n 2, 1) := by decide +kernel
theorem dL_makes_174 : decode cL_makes 174 = .ok (.invokestatic 37, 3) := by decide +kernel
theorem dL_makes_177 : decode cL_makes 177 = .ok (.iconst 1, 1) := by decide +kernel
theorem dL_makes_178 : decode cL_makes 178 = .ok (.iand, 1) := by decide +kernel
theorem dL_makes_179 : decode cL_makes 179 = .ok (.iconst 1, 1) := by decide +kernel
theorem dL_makes_180 : decode cL_makes 180 = .ok (.if_icmp .ne 15, 3) := by decide +kernel
theorem dL_makes_183 : decode cL_makes 183 = .ok (.aload_n 0, 1) := by decide +kernel
theorem dL_makes_184 : decode cL_makes 184 = .ok (.iload_n 2, 1) := by decide +kernel
theorem dL_makes_185 : decode cL_makes 185 = .ok (.iconst 1, 1) := by decide +kernel
theorem dL_makes_186 : decode cL_makes 186 = .ok (.invokevirtual 50, 3) := by decide +kernel
theorem dL_makes_189 : decode cL_makes 189 = .ok (.iconst 1, 1) := by decide +kernel
theorem dL_makes_190 : decode cL_makes 190 = .ok (.if_icmp .ge 5, 3) := by decide +kernel
theorem dL_makes_193 : decode cL_makes 193 = .ok (.iconst 0, 1) := by decide +kernel
theorem dL_makes_194 : decode cL_makes 194 = .ok (.ireturn, 1) := by decide +kernel
theorem dL_makes_195 : decode cL_makes 195 = .ok (.iinc 2 1, 3) := by decide +kernel
theorem dL_makes_198 : decode cL_makes 198 = .ok (.goto (-31), 3) := by decide +kernel
theorem dL_makes_201 : decode cL_makes 201 = .ok (.aload_n 0, 1) := by decide +kernel
theorem dL_makes_202 : decode cL_makes 202 = .ok (.iconst 1, 1) := by decide +kernel
theorem dL_makes_203 : decode cL_makes 203 = .ok (.aload_n 1, 1) := by decide +kernel
theorem dL_makes_204 : decode cL_makes 204 = .ok (.bipush 18, 2) := by decide +kernel
theorem dL_makes_206 : decode cL_makes 206 = .ok (.invokestatic 37, 3) := by decide +kernel
theorem dL_makes_209 : decode cL_makes 209 = .ok (.bipush 6, 2) := by decide +kernel
theorem dL_makes_211 : decode cL_makes 211 = .ok (.invokestatic 43, 3) := by decide +kernel
theorem dL_makes_214 : decode cL_makes 214 = .ok (.iadd, 1) := by decide +kernel
theorem dL_makes_215 : decode cL_makes 215 = .ok (.invokevirtual 53, 3) := by decide +kernel
theorem dL_makes_218 : decode cL_makes 218 = .ok (.ifCond .lt 7, 3) := by decide +kernel
theorem dL_makes_221 : decode cL_makes 221 = .ok (.iconst 1, 1) := by decide +kernel
theorem dL_makes_222 : decode cL_makes 222 = .ok (.goto 4, 3) := by decide +kernel
theorem dL_makes_225 : decode cL_makes 225 = .ok (.iconst 0, 1) := by decide +kernel
theorem dL_makes_226 : decode cL_makes 226 = .ok (.ireturn, 1) := by decide +kernel
theorem dL_asks_0 : decode cL_asks 0 = .ok (.ldc2_w 56, 3) := by decide +kernel
theorem dL_asks_3 : decode cL_asks 3 = .ok (.aload_n 0, 1) := by decide +kernel
theorem dL_asks_4 : decode cL_asks 4 = .ok (.invokevirtual 58, 3) := by decide +kernel
theorem dL_asks_7 : decode cL_asks 7 = .ok (.invokestatic 62, 3) := by decide +kernel
theorem dL_asks_10 : decode cL_asks 10 = .ok (.lmul, 1) := by decide +kernel
theorem dL_asks_11 : decode cL_asks 11 = .ok (.aload_n 0, 1) := by decide +kernel
theorem dL_asks_12 : decode cL_asks 12 = .ok (.invokevirtual 68, 3) := by decide +kernel
theorem dL_asks_15 : decode cL_asks 15 = .ok (.invokestatic 72, 3) := by decide +kernel
theorem dL_asks_18 : decode cL_asks 18 = .ok (.i2l, 1) := by decide +kernel
theorem dL_asks_19 : decode cL_asks 19 = .ok (.ladd, 1) := by decide +kernel
theorem dL_asks_20 : decode cL_asks 20 = .ok (.lstore_n 1, 1) := by decide +kernel
theorem dL_asks_21 : decode cL_asks 21 = .ok (.iconst 0, 1) := by decide +kernel
theorem dL_asks_22 : decode cL_asks 22 = .ok (.istore_n 3, 1) := by decide +kernel
theorem dL_asks_23 : decode cL_asks 23 = .ok (.iload_n 3, 1) := by decide +kernel
theorem dL_asks_24 : decode cL_asks 24 = .ok (.bipush 11, 2) := by decide +kernel
theorem dL_asks_26 : decode cL_asks 26 = .ok (.if_icmp .ge 22, 3) := by decide +kernel
theorem dL_asks_29 : decode cL_asks 29 = .ok (.ldc2_w 56, 3) := by decide +kernel
theorem dL_asks_32 : decode cL_asks 32 = .ok (.lload_n 1, 1) := by decide +kernel
theorem dL_asks_33 : decode cL_asks 33 = .ok (.lmul, 1) := by decide +kernel
theorem dL_asks_34 : decode cL_asks 34 = .ok (.aload_n 0, 1) := by decide +kernel
theorem dL_asks_35 : decode cL_asks 35 = .ok (.iload_n 3, 1) := by decide +kernel
theorem dL_asks_36 : decode cL_asks 36 = .ok (.invokevirtual 78, 3) := by decide +kernel
theorem dL_asks_39 : decode cL_asks 39 = .ok (.i2l, 1) := by decide +kernel
theorem dL_asks_40 : decode cL_asks 40 = .ok (.ladd, 1) := by decide +kernel
theorem dL_asks_41 : decode cL_asks 41 = .ok (.lstore_n 1, 1) := by decide +kernel
theorem dL_asks_42 : decode cL_asks 42 = .ok (.iinc 3 1, 3) := by decide +kernel
theorem dL_asks_45 : decode cL_asks 45 = .ok (.goto (-22), 3) := by decide +kernel
theorem dL_asks_48 : decode cL_asks 48 = .ok (.aload_n 0, 1) := by decide +kernel
theorem dL_asks_49 : decode cL_asks 49 = .ok (.iconst 1, 1) := by decide +kernel
theorem dL_asks_50 : decode cL_asks 50 = .ok (.invokevirtual 78, 3) := by decide +kernel
theorem dL_asks_53 : decode cL_asks 53 = .ok (.istore_n 3, 1) := by decide +kernel
theorem dL_asks_54 : decode cL_asks 54 = .ok (.iconst 0, 1) := by decide +kernel
theorem dL_asks_55 : decode cL_asks 55 = .ok (.istore 4, 2) := by decide +kernel
theorem dL_asks_57 : decode cL_asks 57 = .ok (.iload 4, 2) := by decide +kernel
theorem dL_asks_59 : decode cL_asks 59 = .ok (.iload_n 3, 1) := by decide +kernel
theorem dL_asks_60 : decode cL_asks 60 = .ok (.if_icmp .ge 199, 3) := by decide +kernel
theorem dL_asks_63 : decode cL_asks 63 = .ok (.iconst 0, 1) := by decide +kernel
theorem dL_asks_64 : decode cL_asks 64 = .ok (.istore 5, 2) := by decide +kernel
theorem dL_asks_66 : decode cL_asks 66 = .ok (.iload 5, 2) := by decide +kernel
theorem dL_asks_68 : decode cL_asks 68 = .ok (.bipush 8, 2) := by decide +kernel
theorem dL_asks_70 : decode cL_asks 70 = .ok (.if_icmp .ge 25, 3) := by decide +kernel
theorem dL_asks_73 : decode cL_asks 73 = .ok (.ldc2_w 56, 3) := by decide +kernel
theorem dL_asks_76 : decode cL_asks 76 = .ok (.lload_n 1, 1) := by decide +kernel
theorem dL_asks_77 : decode cL_asks 77 = .ok (.lmul, 1) := by decide +kernel
theorem dL_asks_78 : decode cL_asks 78 = .ok (.aload_n 0, 1) := by decide +kernel
theorem dL_asks_79 : decode cL_asks 79 = .ok (.iload 4, 2) := by decide +kernel
theorem dL_asks_81 : decode cL_asks 81 = .ok (.iload 5, 2) := by decide +kernel
theorem dL_asks_83 : decode cL_asks 83 = .ok (.invokevirtual 81, 3) := by decide +kernel
theorem dL_asks_86 : decode cL_asks 86 = .ok (.i2l, 1) := by decide +kernel
theorem dL_asks_87 : decode cL_asks 87 = .ok (.ladd, 1) := by decide +kernel
theorem dL_asks_88 : decode cL_asks 88 = .ok (.lstore_n 1, 1) := by decide +kernel
theorem dL_asks_89 : decode cL_asks 89 = .ok (.iinc 5 1, 3) := by decide +kernel
theorem dL_asks_92 : decode cL_asks 92 = .ok (.goto (-26), 3) := by decide +kernel
theorem dL_asks_95 : decode cL_asks 95 = .ok (.iconst 0, 1) := by decide +kernel
theorem dL_asks_96 : decode cL_asks 96 = .ok (.istore 5, 2) := by decide +kernel
theorem dL_asks_98 : decode cL_asks 98 = .ok (.iload 5, 2) := by decide +kernel
theorem dL_asks_100 : decode cL_asks 100 = .ok (.iconst 3, 1) := by decide +kernel
theorem dL_asks_101 : decode cL_asks 101 = .ok (.if_icmp .ge 25, 3) := by decide +kernel
theorem dL_asks_104 : decode cL_asks 104 = .ok (.ldc2_w 56, 3) := by decide +kernel
theorem dL_asks_107 : decode cL_asks 107 = .ok (.lload_n 1, 1) := by decide +kernel
theorem dL_asks_108 : decode cL_asks 108 = .ok (.lmul, 1) := by decide +kernel
theorem dL_asks_109 : decode cL_asks 109 = .ok (.aload_n 0, 1) := by decide +kernel
theorem dL_asks_110 : decode cL_asks 110 = .ok (.iload 4, 2) := by decide +kernel
theorem dL_asks_112 : decode cL_asks 112 = .ok (.iload 5, 2) := by decide +kernel
theorem dL_asks_114 : decode cL_asks 114 = .ok (.invokevirtual 84, 3) := by decide +kernel
theorem dL_asks_117 : decode cL_asks 117 = .ok (.i2l, 1) := by decide +kernel
theorem dL_asks_118 : decode cL_asks 118 = .ok (.ladd, 1) := by decide +kernel
theorem dL_asks_119 : decode cL_asks 119 = .ok (.lstore_n 1, 1) := by decide +kernel
theorem dL_asks_120 : decode cL_asks 120 = .ok (.iinc 5 1, 3) := by decide +kernel
theorem dL_asks_123 : decode cL_asks 123 = .ok (.goto (-25), 3) := by decide +kernel
theorem dL_asks_126 : decode cL_asks 126 = .ok (.ldc2_w 56, 3) := by decide +kernel
theorem dL_asks_129 : decode cL_asks 129 = .ok (.ldc2_w 56, 3) := by decide +kernel
theorem dL_asks_132 : decode cL_asks 132 = .ok (.ldc2_w 56, 3) := by decide +kernel
theorem dL_asks_135 : decode cL_asks 135 = .ok (.ldc2_w 56, 3) := by decide +kernel
theorem dL_asks_138 : decode cL_asks 138 = .ok (.ldc2_w 56, 3) := by decide +kernel
theorem dL_asks_141 : decode cL_asks 141 = .ok (.lload_n 1, 1) := by decide +kernel
theorem dL_asks_142 : decode cL_asks 142 = .ok (.lmul, 1) := by decide +kernel
theorem dL_asks_143 : decode cL_asks 143 = .ok (.aload_n 0, 1) := by decide +kernel
theorem dL_asks_144 : decode cL_asks 144 = .ok (.iload 4, 2) := by decide +kernel
theorem dL_asks_146 : decode cL_asks 146 = .ok (.invokevirtual 87, 3) := by decide +kernel
theorem dL_asks_149 : decode cL_asks 149 = .ok (.i2l, 1) := by decide +kernel
theorem dL_asks_150 : decode cL_asks 150 = .ok (.ladd, 1) := by decide +kernel
theorem dL_asks_151 : decode cL_asks 151 = .ok (.lmul, 1) := by decide +kernel
theorem dL_asks_152 : decode cL_asks 152 = .ok (.aload_n 0, 1) := by decide +kernel
theorem dL_asks_153 : decode cL_asks 153 = .ok (.iload 4, 2) := by decide +kernel
theorem dL_asks_155 : decode cL_asks 155 = .ok (.invokevirtual 90, 3) := by decide +kernel
theorem dL_asks_158 : decode cL_asks 158 = .ok (.i2l, 1) := by decide +kernel
theorem dL_asks_159 : decode cL_asks 159 = .ok (.ladd, 1) := by decide +kernel
theorem dL_asks_160 : decode cL_asks 160 = .ok (.lmul, 1) := by decide +kernel
theorem dL_asks_161 : decode cL_asks 161 = .ok (.aload_n 0, 1) := by decide +kernel
theorem dL_asks_162 : decode cL_asks 162 = .ok (.iload 4, 2) := by decide +kernel
theorem dL_asks_164 : decode cL_asks 164 = .ok (.invokevirtual 93, 3) := by decide +kernel
theorem dL_asks_167 : decode cL_asks 167 = .ok (.i2l, 1) := by decide +kernel
theorem dL_asks_168 : decode cL_asks 168 = .ok (.ladd, 1) := by decide +kernel
theorem dL_asks_169 : decode cL_asks 169 = .ok (.lmul, 1) := by decide +kernel
theorem dL_asks_170 : decode cL_asks 170 = .ok (.aload_n 0, 1) := by decide +kernel
theorem dL_asks_171 : decode cL_asks 171 = .ok (.iload 4, 2) := by decide +kernel
theorem dL_asks_173 : decode cL_asks 173 = .ok (.invokevirtual 96, 3) := by decide +kernel
theorem dL_asks_176 : decode cL_asks 176 = .ok (.i2l, 1) := by decide +kernel
theorem dL_asks_177 : decode cL_asks 177 = .ok (.ladd, 1) := by decide +kernel
theorem dL_asks_178 : decode cL_asks 178 = .ok (.lmul, 1) := by decide +kernel
theorem dL_asks_179 : decode cL_asks 179 = .ok (.aload_n 0, 1) := by decide +kernel
theorem dL_asks_180 : decode cL_asks 180 = .ok (.iload 4, 2) := by decide +kernel
theorem dL_asks_182 : decode cL_asks 182 = .ok (.iconst 0, 1) := by decide +kernel
theorem dL_asks_183 : decode cL_asks 183 = .ok (.invokevirtual 99, 3) := by decide +kernel
theorem dL_asks_186 : decode cL_asks 186 = .ok (.i2l, 1) := by decide +kernel
theorem dL_asks_187 : decode cL_asks 187 = .ok (.ladd, 1) := by decide +kernel
theorem dL_asks_188 : decode cL_asks 188 = .ok (.lstore_n 1, 1) := by decide +kernel
theorem dL_asks_189 : decode cL_asks 189 = .ok (.ldc2_w 56, 3) := by decide +kernel
theorem dL_asks_192 : decode cL_asks 192 = .ok (.ldc2_w 56, 3) := by decide +kernel
