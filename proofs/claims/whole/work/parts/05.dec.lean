theorem dX8_told_19 : decode cX8_told 19 = .ok (.invokevirtual 89, 3) := by decide +kernel
theorem dX8_told_22 : decode cX8_told 22 = .ok (.ifCond .eq 7, 3) := by decide +kernel
theorem dX8_told_25 : decode cX8_told 25 = .ok (.iconst 1, 1) := by decide +kernel
theorem dX8_told_26 : decode cX8_told 26 = .ok (.goto 4, 3) := by decide +kernel
theorem dX8_told_29 : decode cX8_told 29 = .ok (.iconst 0, 1) := by decide +kernel
theorem dX8_told_30 : decode cX8_told 30 = .ok (.istore_n 3, 1) := by decide +kernel
theorem dX8_told_31 : decode cX8_told 31 = .ok (.iload_n 2, 1) := by decide +kernel
theorem dX8_told_32 : decode cX8_told 32 = .ok (.i2l, 1) := by decide +kernel
theorem dX8_told_33 : decode cX8_told 33 = .ok (.lconst 0, 1) := by decide +kernel
theorem dX8_told_34 : decode cX8_told 34 = .ok (.ldc2_w 124, 3) := by decide +kernel
theorem dX8_told_37 : decode cX8_told 37 = .ok (.invokestatic 85, 3) := by decide +kernel
theorem dX8_told_40 : decode cX8_told 40 = .ok (.ifCond .ne 7, 3) := by decide +kernel
theorem dX8_told_43 : decode cX8_told 43 = .ok (.iload_n 3, 1) := by decide +kernel
theorem dX8_told_44 : decode cX8_told 44 = .ok (.ifCond .eq 16, 3) := by decide +kernel
theorem dX8_told_47 : decode cX8_told 47 = .ok (.iload_n 2, 1) := by decide +kernel
theorem dX8_told_48 : decode cX8_told 48 = .ok (.iconst 1, 1) := by decide +kernel
theorem dX8_told_49 : decode cX8_told 49 = .ok (.if_icmp .le 14, 3) := by decide +kernel
theorem dX8_told_52 : decode cX8_told 52 = .ok (.aload_n 0, 1) := by decide +kernel
theorem dX8_told_53 : decode cX8_told 53 = .ok (.iload_n 1, 1) := by decide +kernel
theorem dX8_told_54 : decode cX8_told 54 = .ok (.invokevirtual 89, 3) := by decide +kernel
theorem dX8_told_57 : decode cX8_told 57 = .ok (.ifCond .ne 6, 3) := by decide +kernel
theorem dX8_told_60 : decode cX8_told 60 = .ok (.bipush (-2), 2) := by decide +kernel
theorem dX8_told_62 : decode cX8_told 62 = .ok (.ireturn, 1) := by decide +kernel
theorem dX8_told_63 : decode cX8_told 63 = .ok (.iload_n 3, 1) := by decide +kernel
theorem dX8_told_64 : decode cX8_told 64 = .ok (.ifCond .eq 18, 3) := by decide +kernel
theorem dX8_told_67 : decode cX8_told 67 = .ok (.aload_n 0, 1) := by decide +kernel
theorem dX8_told_68 : decode cX8_told 68 = .ok (.getfield 35, 3) := by decide +kernel
theorem dX8_told_71 : decode cX8_told 71 = .ok (.bipush 7, 2) := by decide +kernel
theorem dX8_told_73 : decode cX8_told 73 = .ok (.iload_n 1, 1) := by decide +kernel
theorem dX8_told_74 : decode cX8_told 74 = .ok (.imul, 1) := by decide +kernel
theorem dX8_told_75 : decode cX8_told 75 = .ok (.iload_n 2, 1) := by decide +kernel
theorem dX8_told_76 : decode cX8_told 76 = .ok (.iadd, 1) := by decide +kernel
theorem dX8_told_77 : decode cX8_told 77 = .ok (.bipush 10, 2) := by decide +kernel
theorem dX8_told_79 : decode cX8_told 79 = .ok (.isub, 1) := by decide +kernel
theorem dX8_told_80 : decode cX8_told 80 = .ok (.iaload, 1) := by decide +kernel
theorem dX8_told_81 : decode cX8_told 81 = .ok (.ireturn, 1) := by decide +kernel
theorem dX8_told_82 : decode cX8_told 82 = .ok (.iload_n 2, 1) := by decide +kernel
theorem dX8_told_83 : decode cX8_told 83 = .ok (.iconst 5, 1) := by decide +kernel
theorem dX8_told_84 : decode cX8_told 84 = .ok (.if_icmp .ge 61, 3) := by decide +kernel
theorem dX8_told_87 : decode cX8_told 87 = .ok (.iload_n 2, 1) := by decide +kernel
theorem dX8_told_88 : decode cX8_told 88 = .ok (.ifCond .ne 10, 3) := by decide +kernel
theorem dX8_told_91 : decode cX8_told 91 = .ok (.aload_n 0, 1) := by decide +kernel
theorem dX8_told_92 : decode cX8_told 92 = .ok (.getfield 23, 3) := by decide +kernel
theorem dX8_told_95 : decode cX8_told 95 = .ok (.goto 49, 3) := by decide +kernel
theorem dX8_told_98 : decode cX8_told 98 = .ok (.iload_n 2, 1) := by decide +kernel
theorem dX8_told_99 : decode cX8_told 99 = .ok (.iconst 1, 1) := by decide +kernel
theorem dX8_told_100 : decode cX8_told 100 = .ok (.if_icmp .ne 10, 3) := by decide +kernel
theorem dX8_told_103 : decode cX8_told 103 = .ok (.aload_n 0, 1) := by decide +kernel
theorem dX8_told_104 : decode cX8_told 104 = .ok (.getfield 111, 3) := by decide +kernel
theorem dX8_told_107 : decode cX8_told 107 = .ok (.goto 37, 3) := by decide +kernel
theorem dX8_told_110 : decode cX8_told 110 = .ok (.iload_n 2, 1) := by decide +kernel
theorem dX8_told_111 : decode cX8_told 111 = .ok (.iconst 2, 1) := by decide +kernel
theorem dX8_told_112 : decode cX8_told 112 = .ok (.if_icmp .ne 12, 3) := by decide +kernel
theorem dX8_told_115 : decode cX8_told 115 = .ok (.aload_n 0, 1) := by decide +kernel
theorem dX8_told_116 : decode cX8_told 116 = .ok (.getfield 29, 3) := by decide +kernel
theorem dX8_told_119 : decode cX8_told 119 = .ok (.iload_n 1, 1) := by decide +kernel
theorem dX8_told_120 : decode cX8_told 120 = .ok (.iaload, 1) := by decide +kernel
theorem dX8_told_121 : decode cX8_told 121 = .ok (.goto 23, 3) := by decide +kernel
theorem dX8_told_124 : decode cX8_told 124 = .ok (.iload_n 2, 1) := by decide +kernel
theorem dX8_told_125 : decode cX8_told 125 = .ok (.iconst 3, 1) := by decide +kernel
theorem dX8_told_126 : decode cX8_told 126 = .ok (.if_icmp .ne 12, 3) := by decide +kernel
theorem dX8_told_129 : decode cX8_told 129 = .ok (.aload_n 0, 1) := by decide +kernel
theorem dX8_told_130 : decode cX8_told 130 = .ok (.getfield 32, 3) := by decide +kernel
theorem dX8_told_133 : decode cX8_told 133 = .ok (.iload_n 1, 1) := by decide +kernel
theorem dX8_told_134 : decode cX8_told 134 = .ok (.iaload, 1) := by decide +kernel
theorem dX8_told_135 : decode cX8_told 135 = .ok (.goto 9, 3) := by decide +kernel
theorem dX8_told_138 : decode cX8_told 138 = .ok (.aload_n 0, 1) := by decide +kernel
theorem dX8_told_139 : decode cX8_told 139 = .ok (.getfield 26, 3) := by decide +kernel
theorem dX8_told_142 : decode cX8_told 142 = .ok (.iload_n 1, 1) := by decide +kernel
theorem dX8_told_143 : decode cX8_told 143 = .ok (.iaload, 1) := by decide +kernel
theorem dX8_told_144 : decode cX8_told 144 = .ok (.ireturn, 1) := by decide +kernel
theorem dX8_told_145 : decode cX8_told 145 = .ok (.aload_n 0, 1) := by decide +kernel
theorem dX8_told_146 : decode cX8_told 146 = .ok (.iload_n 1, 1) := by decide +kernel
theorem dX8_told_147 : decode cX8_told 147 = .ok (.iconst 1, 1) := by decide +kernel
theorem dX8_told_148 : decode cX8_told 148 = .ok (.aload_n 0, 1) := by decide +kernel
theorem dX8_told_149 : decode cX8_told 149 = .ok (.getfield 82, 3) := by decide +kernel
theorem dX8_told_152 : decode cX8_told 152 = .ok (.ishl, 1) := by decide +kernel
theorem dX8_told_153 : decode cX8_told 153 = .ok (.iconst 1, 1) := by decide +kernel
theorem dX8_told_154 : decode cX8_told 154 = .ok (.isub, 1) := by decide +kernel
theorem dX8_told_155 : decode cX8_told 155 = .ok (.invokevirtual 126, 3) := by decide +kernel
theorem dX8_told_158 : decode cX8_told 158 = .ok (.istore 4, 2) := by decide +kernel
theorem dX8_told_160 : decode cX8_told 160 = .ok (.iload_n 2, 1) := by decide +kernel
theorem dX8_told_161 : decode cX8_told 161 = .ok (.iconst 5, 1) := by decide +kernel
theorem dX8_told_162 : decode cX8_told 162 = .ok (.if_icmp .ne 8, 3) := by decide +kernel
theorem dX8_told_165 : decode cX8_told 165 = .ok (.iload 4, 2) := by decide +kernel
theorem dX8_told_167 : decode cX8_told 167 = .ok (.goto 32, 3) := by decide +kernel
theorem dX8_told_170 : decode cX8_told 170 = .ok (.iload_n 2, 1) := by decide +kernel
theorem dX8_told_171 : decode cX8_told 171 = .ok (.bipush 6, 2) := by decide +kernel
theorem dX8_told_173 : decode cX8_told 173 = .ok (.if_icmp .ne 21, 3) := by decide +kernel
theorem dX8_told_176 : decode cX8_told 176 = .ok (.aload_n 0, 1) := by decide +kernel
theorem dX8_told_177 : decode cX8_told 177 = .ok (.iload_n 1, 1) := by decide +kernel
theorem dX8_told_178 : decode cX8_told 178 = .ok (.iload 4, 2) := by decide +kernel
theorem dX8_told_180 : decode cX8_told 180 = .ok (.invokevirtual 129, 3) := by decide +kernel
theorem dX8_told_183 : decode cX8_told 183 = .ok (.ifCond .eq 7, 3) := by decide +kernel
theorem dX8_told_186 : decode cX8_told 186 = .ok (.iconst 1, 1) := by decide +kernel
theorem dX8_told_187 : decode cX8_told 187 = .ok (.goto 12, 3) := by decide +kernel
theorem dX8_told_190 : decode cX8_told 190 = .ok (.iconst 0, 1) := by decide +kernel
theorem dX8_told_191 : decode cX8_told 191 = .ok (.goto 8, 3) := by decide +kernel
theorem dX8_told_194 : decode cX8_told 194 = .ok (.aload_n 0, 1) := by decide +kernel
theorem dX8_told_195 : decode cX8_told 195 = .ok (.iload_n 1, 1) := by decide +kernel
theorem dX8_told_196 : decode cX8_told 196 = .ok (.invokevirtual 132, 3) := by decide +kernel
theorem dX8_told_199 : decode cX8_told 199 = .ok (.ireturn, 1) := by decide +kernel
theorem dX8_owesAll_0 : decode cX8_owesAll 0 = .ok (.iconst 0, 1) := by decide +kernel
theorem dX8_owesAll_1 : decode cX8_owesAll 1 = .ok (.istore_n 2, 1) := by decide +kernel
theorem dX8_owesAll_2 : decode cX8_owesAll 2 = .ok (.iconst 0, 1) := by decide +kernel
theorem dX8_owesAll_3 : decode cX8_owesAll 3 = .ok (.istore_n 3, 1) := by decide +kernel
theorem dX8_owesAll_4 : decode cX8_owesAll 4 = .ok (.iload_n 3, 1) := by decide +kernel
theorem dX8_owesAll_5 : decode cX8_owesAll 5 = .ok (.aload_n 0, 1) := by decide +kernel
theorem dX8_owesAll_6 : decode cX8_owesAll 6 = .ok (.getfield 82, 3) := by decide +kernel
theorem dX8_owesAll_9 : decode cX8_owesAll 9 = .ok (.if_icmp .ge 23, 3) := by decide +kernel
theorem dX8_owesAll_12 : decode cX8_owesAll 12 = .ok (.iload_n 2, 1) := by decide +kernel
theorem dX8_owesAll_13 : decode cX8_owesAll 13 = .ok (.aload_n 0, 1) := by decide +kernel
theorem dX8_owesAll_14 : decode cX8_owesAll 14 = .ok (.getfield 35, 3) := by decide +kernel
theorem dX8_owesAll_17 : decode cX8_owesAll 17 = .ok (.bipush 7, 2) := by decide +kernel
theorem dX8_owesAll_19 : decode cX8_owesAll 19 = .ok (.iload_n 1, 1) := by decide +kernel
theorem dX8_owesAll_20 : decode cX8_owesAll 20 = .ok (.imul, 1) := by decide +kernel
theorem dX8_owesAll_21 : decode cX8_owesAll 21 = .ok (.iload_n 3, 1) := by decide +kernel
theorem dX8_owesAll_22 : decode cX8_owesAll 22 = .ok (.iadd, 1) := by decide +kernel
theorem dX8_owesAll_23 : decode cX8_owesAll 23 = .ok (.iaload, 1) := by decide +kernel
theorem dX8_owesAll_24 : decode cX8_owesAll 24 = .ok (.iadd, 1) := by decide +kernel
theorem dX8_owesAll_25 : decode cX8_owesAll 25 = .ok (.istore_n 2, 1) := by decide +kernel
theorem dX8_owesAll_26 : decode cX8_owesAll 26 = .ok (.iinc 3 1, 3) := by decide +kernel
theorem dX8_owesAll_29 : decode cX8_owesAll 29 = .ok (.goto (-25), 3) := by decide +kernel
theorem dX8_owesAll_32 : decode cX8_owesAll 32 = .ok (.iload_n 2, 1) := by decide +kernel
theorem dX8_owesAll_33 : decode cX8_owesAll 33 = .ok (.ireturn, 1) := by decide +kernel
theorem dX8_creditor_0 : decode cX8_creditor 0 = .ok (.iconst (-1), 1) := by decide +kernel
theorem dX8_creditor_1 : decode cX8_creditor 1 = .ok (.istore_n 3, 1) := by decide +kernel
theorem dX8_creditor_2 : decode cX8_creditor 2 = .ok (.iconst 0, 1) := by decide +kernel
theorem dX8_creditor_3 : decode cX8_creditor 3 = .ok (.istore 4, 2) := by decide +kernel
theorem dX8_creditor_5 : decode cX8_creditor 5 = .ok (.iload 4, 2) := by decide +kernel
theorem dX8_creditor_7 : decode cX8_creditor 7 = .ok (.aload_n 0, 1) := by decide +kernel
theorem dX8_creditor_8 : decode cX8_creditor 8 = .ok (.getfield 82, 3) := by decide +kernel
theorem dX8_creditor_11 : decode cX8_creditor 11 = .ok (.if_icmp .ge 66, 3) := by decide +kernel
theorem dX8_creditor_14 : decode cX8_creditor 14 = .ok (.iload_n 2, 1) := by decide +kernel
theorem dX8_creditor_15 : decode cX8_creditor 15 = .ok (.iload 4, 2) := by decide +kernel
theorem dX8_creditor_17 : decode cX8_creditor 17 = .ok (.ishr, 1) := by decide +kernel
theorem dX8_creditor_18 : decode cX8_creditor 18 = .ok (.iconst 1, 1) := by decide +kernel
theorem dX8_creditor_19 : decode cX8_creditor 19 = .ok (.iand, 1) := by decide +kernel
theorem dX8_creditor_20 : decode cX8_creditor 20 = .ok (.iconst 1, 1) := by decide +kernel
theorem dX8_creditor_21 : decode cX8_creditor 21 = .ok (.if_icmp .ne 18, 3) := by decide +kernel
theorem dX8_creditor_24 : decode cX8_creditor 24 = .ok (.aload_n 0, 1) := by decide +kernel
theorem dX8_creditor_25 : decode cX8_creditor 25 = .ok (.getfield 35, 3) := by decide +kernel
theorem dX8_creditor_28 : decode cX8_creditor 28 = .ok (.bipush 7, 2) := by decide +kernel
theorem dX8_creditor_30 : decode cX8_creditor 30 = .ok (.iload_n 1, 1) := by decide +kernel
theorem dX8_creditor_31 : decode cX8_creditor 31 = .ok (.imul, 1) := by decide +kernel
theorem dX8_creditor_32 : decode cX8_creditor 32 = .ok (.iload 4, 2) := by decide +kernel
theorem dX8_creditor_34 : decode cX8_creditor 34 = .ok (.iadd, 1) := by decide +kernel
theorem dX8_creditor_35 : decode cX8_creditor 35 = .ok (.iaload, 1) := by decide +kernel
theorem dX8_creditor_36 : decode cX8_creditor 36 = .ok (.goto 4, 3) := by decide +kernel
theorem dX8_creditor_39 : decode cX8_creditor 39 = .ok (.iconst 0, 1) := by decide +kernel
theorem dX8_creditor_40 : decode cX8_creditor 40 = .ok (.istore 5, 2) := by decide +kernel
theorem dX8_creditor_42 : decode cX8_creditor 42 = .ok (.iload 5, 2) := by decide +kernel
theorem dX8_creditor_44 : decode cX8_creditor 44 = .ok (.ifCond .le 27, 3) := by decide +kernel
theorem dX8_creditor_47 : decode cX8_creditor 47 = .ok (.iload_n 3, 1) := by decide +kernel
theorem dX8_creditor_48 : decode cX8_creditor 48 = .ok (.iconst (-1), 1) := by decide +kernel
theorem dX8_creditor_49 : decode cX8_creditor 49 = .ok (.if_icmp .eq 19, 3) := by decide +kernel
theorem dX8_creditor_52 : decode cX8_creditor 52 = .ok (.iload 5, 2) := by decide +kernel
theorem dX8_creditor_54 : decode cX8_creditor 54 = .ok (.aload_n 0, 1) := by decide +kernel
theorem dX8_creditor_55 : decode cX8_creditor 55 = .ok (.getfield 35, 3) := by decide +kernel
theorem dX8_creditor_58 : decode cX8_creditor 58 = .ok (.bipush 7, 2) := by decide +kernel
theorem dX8_creditor_60 : decode cX8_creditor 60 = .ok (.iload_n 1, 1) := by decide +kernel
theorem dX8_creditor_61 : decode cX8_creditor 61 = .ok (.imul, 1) := by decide +kernel
theorem dX8_creditor_62 : decode cX8_creditor 62 = .ok (.iload_n 3, 1) := by decide +kernel
theorem dX8_creditor_63 : decode cX8_creditor 63 = .ok (.iadd, 1) := by decide +kernel
theorem dX8_creditor_64 : decode cX8_creditor 64 = .ok (.iaload, 1) := by decide +kernel
theorem dX8_creditor_65 : decode cX8_creditor 65 = .ok (.if_icmp .le 6, 3) := by decide +kernel
theorem dX8_creditor_68 : decode cX8_creditor 68 = .ok (.iload 4, 2) := by decide +kernel
theorem dX8_creditor_70 : decode cX8_creditor 70 = .ok (.istore_n 3, 1) := by decide +kernel
theorem dX8_creditor_71 : decode cX8_creditor 71 = .ok (.iinc 4 1, 3) := by decide +kernel
theorem dX8_creditor_74 : decode cX8_creditor 74 = .ok (.goto (-69), 3) := by decide +kernel
theorem dX8_creditor_77 : decode cX8_creditor 77 = .ok (.iload_n 3, 1) := by decide +kernel
theorem dX8_creditor_78 : decode cX8_creditor 78 = .ok (.ireturn, 1) := by decide +kernel
theorem dX8_must_0 : decode cX8_must 0 = .ok (.iload_n 2, 1) := by decide +kernel
theorem dX8_must_1 : decode cX8_must 1 = .ok (.iconst (-1), 1) := by decide +kernel
theorem dX8_must_2 : decode cX8_must 2 = .ok (.if_icmp .eq 11, 3) := by decide +kernel
theorem dX8_must_5 : decode cX8_must 5 = .ok (.iload_n 1, 1) := by decide +kernel
theorem dX8_must_6 : decode cX8_must 6 = .ok (.aload_n 0, 1) := by decide +kernel
theorem dX8_must_7 : decode cX8_must 7 = .ok (.getfield 38, 3) := by decide +kernel
theorem dX8_must_10 : decode cX8_must 10 = .ok (.if_icmp .ne 5, 3) := by decide +kernel
theorem dX8_must_13 : decode cX8_must 13 = .ok (.iconst 0, 1) := by decide +kernel
theorem dX8_must_14 : decode cX8_must 14 = .ok (.ireturn, 1) := by decide +kernel
theorem dX8_must_15 : decode cX8_must 15 = .ok (.aload_n 0, 1) := by decide +kernel
theorem dX8_must_16 : decode cX8_must 16 = .ok (.getfield 26, 3) := by decide +kernel
theorem dX8_must_19 : decode cX8_must 19 = .ok (.iload_n 1, 1) := by decide +kernel
theorem dX8_must_20 : decode cX8_must 20 = .ok (.iaload, 1) := by decide +kernel
theorem dX8_must_21 : decode cX8_must 21 = .ok (.istore_n 3, 1) := by decide +kernel
theorem dX8_must_22 : decode cX8_must 22 = .ok (.aload_n 0, 1) := by decide +kernel
theorem dX8_must_23 : decode cX8_must 23 = .ok (.getfield 35, 3) := by decide +kernel
theorem dX8_must_26 : decode cX8_must 26 = .ok (.bipush 7, 2) := by decide +kernel
theorem dX8_must_28 : decode cX8_must 28 = .ok (.iload_n 1, 1) := by decide +kernel
theorem dX8_must_29 : decode cX8_must 29 = .ok (.imul, 1) := by decide +kernel
theorem dX8_must_30 : decode cX8_must 30 = .ok (.iload_n 2, 1) := by decide +kernel
theorem dX8_must_31 : decode cX8_must 31 = .ok (.iadd, 1) := by decide +kernel
theorem dX8_must_32 : decode cX8_must 32 = .ok (.iaload, 1) := by decide +kernel
theorem dX8_must_33 : decode cX8_must 33 = .ok (.istore 4, 2) := by decide +kernel
theorem dX8_must_35 : decode cX8_must 35 = .ok (.iload_n 3, 1) := by decide +kernel
theorem dX8_must_36 : decode cX8_must 36 = .ok (.iconst 1, 1) := by decide +kernel
theorem dX8_must_37 : decode cX8_must 37 = .ok (.if_icmp .eq 8, 3) := by decide +kernel
theorem dX8_must_40 : decode cX8_must 40 = .ok (.iload_n 3, 1) := by decide +kernel
theorem dX8_must_41 : decode cX8_must 41 = .ok (.iconst 3, 1) := by decide +kernel
theorem dX8_must_42 : decode cX8_must 42 = .ok (.if_icmp .ne 39, 3) := by decide +kernel
theorem dX8_must_45 : decode cX8_must 45 = .ok (.iload 4, 2) := by decide +kernel
theorem dX8_must_47 : decode cX8_must 47 = .ok (.bipush 10, 2) := by decide +kernel
theorem dX8_must_49 : decode cX8_must 49 = .ok (.aload_n 0, 1) := by decide +kernel
theorem dX8_must_50 : decode cX8_must 50 = .ok (.getfield 29, 3) := by decide +kernel
theorem dX8_must_53 : decode cX8_must 53 = .ok (.iload_n 1, 1) := by decide +kernel
theorem dX8_must_54 : decode cX8_must 54 = .ok (.iaload, 1) := by decide +kernel
theorem dX8_must_55 : decode cX8_must 55 = .ok (.imul, 1) := by decide +kernel
theorem dX8_must_56 : decode cX8_must 56 = .ok (.if_icmp .le 23, 3) := by decide +kernel
theorem dX8_must_59 : decode cX8_must 59 = .ok (.iload_n 3, 1) := by decide +kernel
theorem dX8_must_60 : decode cX8_must 60 = .ok (.iconst 1, 1) := by decide +kernel
theorem dX8_must_61 : decode cX8_must 61 = .ok (.if_icmp .eq 14, 3) := by decide +kernel
theorem dX8_must_64 : decode cX8_must 64 = .ok (.aload_n 0, 1) := by decide +kernel
theorem dX8_must_65 : decode cX8_must 65 = .ok (.getfield 29, 3) := by decide +kernel
theorem dX8_must_68 : decode cX8_must 68 = .ok (.iload_n 1, 1) := by decide +kernel
theorem dX8_must_69 : decode cX8_must 69 = .ok (.iaload, 1) := by decide +kernel
theorem dX8_must_70 : decode cX8_must 70 = .ok (.iconst 2, 1) := by decide +kernel
theorem dX8_must_71 : decode cX8_must 71 = .ok (.irem, 1) := by decide +kernel
theorem dX8_must_72 : decode cX8_must 72 = .ok (.ifCond .ne 7, 3) := by decide +kernel
theorem dX8_must_75 : decode cX8_must 75 = .ok (.iconst 1, 1) := by decide +kernel
theorem dX8_must_76 : decode cX8_must 76 = .ok (.goto 4, 3) := by decide +kernel
theorem dX8_must_79 : decode cX8_must 79 = .ok (.iconst 0, 1) := by decide +kernel
theorem dX8_must_80 : decode cX8_must 80 = .ok (.ireturn, 1) := by decide +kernel
theorem dX8_must_81 : decode cX8_must 81 = .ok (.iload_n 3, 1) := by decide +kernel
theorem dX8_must_82 : decode cX8_must 82 = .ok (.ifCond .eq 32, 3) := by decide +kernel
theorem dX8_must_85 : decode cX8_must 85 = .ok (.iload_n 3, 1) := by decide +kernel
theorem dX8_must_86 : decode cX8_must 86 = .ok (.iconst 4, 1) := by decide +kernel
theorem dX8_must_87 : decode cX8_must 87 = .ok (.if_icmp .ne 14, 3) := by decide +kernel
theorem dX8_must_90 : decode cX8_must 90 = .ok (.iload 4, 2) := by decide +kernel
theorem dX8_must_92 : decode cX8_must 92 = .ok (.sipush 500, 3) := by decide +kernel
theorem dX8_must_95 : decode cX8_must 95 = .ok (.if_icmp .le 23, 3) := by decide +kernel
theorem dX8_must_98 : decode cX8_must 98 = .ok (.goto 16, 3) := by decide +kernel
theorem dX8_must_101 : decode cX8_must 101 = .ok (.iload_n 3, 1) := by decide +kernel
theorem dX8_must_102 : decode cX8_must 102 = .ok (.iconst 5, 1) := by decide +kernel
theorem dX8_must_103 : decode cX8_must 103 = .ok (.if_icmp .ne 15, 3) := by decide +kernel
theorem dX8_must_106 : decode cX8_must 106 = .ok (.iload 4, 2) := by decide +kernel
theorem dX8_must_108 : decode cX8_must 108 = .ok (.iconst 2, 1) := by decide +kernel
theorem dX8_must_109 : decode cX8_must 109 = .ok (.irem, 1) := by decide +kernel
theorem dX8_must_110 : decode cX8_must 110 = .ok (.iconst 1, 1) := by decide +kernel
theorem dX8_must_111 : decode cX8_must 111 = .ok (.if_icmp .ne 7, 3) := by decide +kernel
theorem dX8_must_114 : decode cX8_must 114 = .ok (.iconst 1, 1) := by decide +kernel
theorem dX8_must_115 : decode cX8_must 115 = .ok (.goto 4, 3) := by decide +kernel
theorem dX8_must_118 : decode cX8_must 118 = .ok (.iconst 0, 1) := by decide +kernel
theorem dX8_must_119 : decode cX8_must 119 = .ok (.ireturn, 1) := by decide +kernel
theorem dX8_feed_0 : decode cX8_feed 0 = .ok (.iload_n 1, 1) := by decide +kernel
theorem dX8_feed_1 : decode cX8_feed 1 = .ok (.i2l, 1) := by decide +kernel
theorem dX8_feed_2 : decode cX8_feed 2 = .ok (.lconst 0, 1) := by decide +kernel
theorem dX8_feed_3 : decode cX8_feed 3 = .ok (.ldc2_w 136, 3) := by decide +kernel
theorem dX8_feed_6 : decode cX8_feed 6 = .ok (.invokestatic 85, 3) := by decide +kernel
theorem dX8_feed_9 : decode cX8_feed 9 = .ok (.ifCond .ne 6, 3) := by decide +kernel
theorem dX8_feed_12 : decode cX8_feed 12 = .ok (.bipush (-2), 2) := by decide +kernel
theorem dX8_feed_14 : decode cX8_feed 14 = .ok (.ireturn, 1) := by decide +kernel
theorem dX8_feed_15 : decode cX8_feed 15 = .ok (.aload_n 0, 1) := by decide +kernel
theorem dX8_feed_16 : decode cX8_feed 16 = .ok (.getfield 138, 3) := by decide +kernel
theorem dX8_feed_19 : decode cX8_feed 19 = .ok (.sipush 160, 3) := by decide +kernel
theorem dX8_feed_22 : decode cX8_feed 22 = .ok (.if_icmp .ne 6, 3) := by decide +kernel
theorem dX8_feed_25 : decode cX8_feed 25 = .ok (.bipush (-4), 2) := by decide +kernel
theorem dX8_feed_27 : decode cX8_feed 27 = .ok (.ireturn, 1) := by decide +kernel
theorem dX8_feed_28 : decode cX8_feed 28 = .ok (.aload_n 0, 1) := by decide +kernel
theorem dX8_feed_29 : decode cX8_feed 29 = .ok (.getfield 20, 3) := by decide +kernel
theorem dX8_feed_32 : decode cX8_feed 32 = .ok (.aload_n 0, 1) := by decide +kernel
theorem dX8_feed_33 : decode cX8_feed 33 = .ok (.getfield 138, 3) := by decide +kernel
theorem dX8_feed_36 : decode cX8_feed 36 = .ok (.iload_n 1, 1) := by decide +kernel
theorem dX8_feed_37 : decode cX8_feed 37 = .ok (.iastore, 1) := by decide +kernel
theorem dX8_feed_38 : decode cX8_feed 38 = .ok (.aload_n 0, 1) := by decide +kernel
theorem dX8_feed_39 : decode cX8_feed 39 = .ok (.dup, 1) := by decide +kernel
theorem dX8_feed_40 : decode cX8_feed 40 = .ok (.getfield 138, 3) := by decide +kernel
theorem dX8_feed_43 : decode cX8_feed 43 = .ok (.iconst 1, 1) := by decide +kernel
theorem dX8_feed_44 : decode cX8_feed 44 = .ok (.iadd, 1) := by decide +kernel
theorem dX8_feed_45 : decode cX8_feed 45 = .ok (.putfield 138, 3) := by decide +kernel
theorem dX8_feed_48 : decode cX8_feed 48 = .ok (.aload_n 0, 1) := by decide +kernel
theorem dX8_feed_49 : decode cX8_feed 49 = .ok (.getfield 138, 3) := by decide +kernel
theorem dX8_feed_52 : decode cX8_feed 52 = .ok (.ireturn, 1) := by decide +kernel
theorem dX8_byteAt_0 : decode cX8_byteAt 0 = .ok (.iload_n 1, 1) := by decide +kernel
theorem dX8_byteAt_1 : decode cX8_byteAt 1 = .ok (.aload_n 0, 1) := by decide +kernel
theorem dX8_byteAt_2 : decode cX8_byteAt 2 = .ok (.getfield 141, 3) := by decide +kernel
theorem dX8_byteAt_5 : decode cX8_byteAt 5 = .ok (.if_icmp .ge 17, 3) := by decide +kernel
theorem dX8_byteAt_8 : decode cX8_byteAt 8 = .ok (.aload_n 0, 1) := by decide +kernel
theorem dX8_byteAt_9 : decode cX8_byteAt 9 = .ok (.getfield 13, 3) := by decide +kernel
theorem dX8_byteAt_12 : decode cX8_byteAt 12 = .ok (.aload_n 0, 1) := by decide +kernel
theorem dX8_byteAt_13 : decode cX8_byteAt 13 = .ok (.getfield 144, 3) := by decide +kernel
theorem dX8_byteAt_16 : decode cX8_byteAt 16 = .ok (.iload_n 1, 1) := by decide +kernel
theorem dX8_byteAt_17 : decode cX8_byteAt 17 = .ok (.iadd, 1) := by decide +kernel
theorem dX8_byteAt_18 : decode cX8_byteAt 18 = .ok (.iaload, 1) := by decide +kernel
theorem dX8_byteAt_19 : decode cX8_byteAt 19 = .ok (.goto 4, 3) := by decide +kernel
theorem dX8_byteAt_22 : decode cX8_byteAt 22 = .ok (.iconst (-1), 1) := by decide +kernel
theorem dX8_byteAt_23 : decode cX8_byteAt 23 = .ok (.ireturn, 1) := by decide +kernel
theorem dX8_next_0 : decode cX8_next 0 = .ok (.aload_n 0, 1) := by decide +kernel
theorem dX8_next_1 : decode cX8_next 1 = .ok (.aload_n 0, 1) := by decide +kernel
theorem dX8_next_2 : decode cX8_next 2 = .ok (.getfield 147, 3) := by decide +kernel
theorem dX8_next_5 : decode cX8_next 5 = .ok (.invokevirtual 150, 3) := by decide +kernel
theorem dX8_next_8 : decode cX8_next 8 = .ok (.bipush 32, 2) := by decide +kernel
theorem dX8_next_10 : decode cX8_next 10 = .ok (.if_icmp .eq 16, 3) := by decide +kernel
theorem dX8_next_13 : decode cX8_next 13 = .ok (.aload_n 0, 1) := by decide +kernel
theorem dX8_next_14 : decode cX8_next 14 = .ok (.aload_n 0, 1) := by decide +kernel
theorem dX8_next_15 : decode cX8_next 15 = .ok (.getfield 147, 3) := by decide +kernel
theorem dX8_next_18 : decode cX8_next 18 = .ok (.invokevirtual 150, 3) := by decide +kernel
theorem dX8_next_21 : decode cX8_next 21 = .ok (.bipush 10, 2) := by decide +kernel
theorem dX8_next_23 : decode cX8_next 23 = .ok (.if_icmp .ne 16, 3) := by decide +kernel
theorem dX8_next_26 : decode cX8_next 26 = .ok (.aload_n 0, 1) := by decide +kernel
theorem dX8_next_27 : decode cX8_next 27 = .ok (.dup, 1) := by decide +kernel
theorem dX8_next_28 : decode cX8_next 28 = .ok (.getfield 147, 3) := by decide +kernel
theorem dX8_next_31 : decode cX8_next 31 = .ok (.iconst 1, 1) := by decide +kernel
theorem dX8_next_32 : decode cX8_next 32 = .ok (.iadd, 1) := by decide +kernel
theorem dX8_next_33 : decode cX8_next 33 = .ok (.putfield 147, 3) := by decide +kernel
theorem dX8_next_36 : decode cX8_next 36 = .ok (.goto (-36), 3) := by decide +kernel
theorem dX8_next_39 : decode cX8_next 39 = .ok (.aload_n 0, 1) := by decide +kernel
theorem dX8_next_40 : decode cX8_next 40 = .ok (.aload_n 0, 1) := by decide +kernel
theorem dX8_next_41 : decode cX8_next 41 = .ok (.getfield 147, 3) := by decide +kernel
theorem dX8_next_44 : decode cX8_next 44 = .ok (.putfield 153, 3) := by decide +kernel
theorem dX8_next_47 : decode cX8_next 47 = .ok (.aload_n 0, 1) := by decide +kernel
theorem dX8_next_48 : decode cX8_next 48 = .ok (.aload_n 0, 1) := by decide +kernel
theorem dX8_next_49 : decode cX8_next 49 = .ok (.getfield 147, 3) := by decide +kernel
theorem dX8_next_52 : decode cX8_next 52 = .ok (.invokevirtual 150, 3) := by decide +kernel
theorem dX8_next_55 : decode cX8_next 55 = .ok (.istore_n 1, 1) := by decide +kernel
theorem dX8_next_56 : decode cX8_next 56 = .ok (.aload_n 0, 1) := by decide +kernel
theorem dX8_next_57 : decode cX8_next 57 = .ok (.iconst 4, 1) := by decide +kernel
theorem dX8_next_58 : decode cX8_next 58 = .ok (.putfield 156, 3) := by decide +kernel
theorem dX8_next_61 : decode cX8_next 61 = .ok (.iload_n 1, 1) := by decide +kernel
theorem dX8_next_62 : decode cX8_next 62 = .ok (.ifCond .ge 19, 3) := by decide +kernel
theorem dX8_next_65 : decode cX8_next 65 = .ok (.aload_n 0, 1) := by decide +kernel
theorem dX8_next_66 : decode cX8_next 66 = .ok (.iconst 0, 1) := by decide +kernel
theorem dX8_next_67 : decode cX8_next 67 = .ok (.putfield 156, 3) := by decide +kernel
theorem dX8_next_70 : decode cX8_next 70 = .ok (.aload_n 0, 1) := by decide +kernel
theorem dX8_next_71 : decode cX8_next 71 = .ok (.aload_n 0, 1) := by decide +kernel
theorem dX8_next_72 : decode cX8_next 72 = .ok (.getfield 141, 3) := by decide +kernel
theorem dX8_next_75 : decode cX8_next 75 = .ok (.putfield 153, 3) := by decide +kernel
theorem dX8_next_78 : decode cX8_next 78 = .ok (.goto 243, 3) := by decide +kernel
theorem dX8_next_81 : decode cX8_next 81 = .ok (.iload_n 1, 1) := by decide +kernel
theorem dX8_next_82 : decode cX8_next 82 = .ok (.i2l, 1) := by decide +kernel
theorem dX8_next_83 : decode cX8_next 83 = .ok (.ldc2_w 159, 3) := by decide +kernel
theorem dX8_next_86 : decode cX8_next 86 = .ok (.ldc2_w 161, 3) := by decide +kernel
theorem dX8_next_89 : decode cX8_next 89 = .ok (.invokestatic 85, 3) := by decide +kernel
theorem dX8_next_92 : decode cX8_next 92 = .ok (.ifCond .eq 42, 3) := by decide +kernel
theorem dX8_next_95 : decode cX8_next 95 = .ok (.aload_n 0, 1) := by decide +kernel
theorem dX8_next_96 : decode cX8_next 96 = .ok (.iconst 1, 1) := by decide +kernel
theorem dX8_next_97 : decode cX8_next 97 = .ok (.putfield 156, 3) := by decide +kernel
theorem dX8_next_100 : decode cX8_next 100 = .ok (.aload_n 0, 1) := by decide +kernel
theorem dX8_next_101 : decode cX8_next 101 = .ok (.aload_n 0, 1) := by decide +kernel
theorem dX8_next_102 : decode cX8_next 102 = .ok (.getfield 147, 3) := by decide +kernel
theorem dX8_next_105 : decode cX8_next 105 = .ok (.invokevirtual 150, 3) := by decide +kernel
theorem dX8_next_108 : decode cX8_next 108 = .ok (.i2l, 1) := by decide +kernel
theorem dX8_next_109 : decode cX8_next 109 = .ok (.ldc2_w 159, 3) := by decide +kernel
theorem dX8_next_112 : decode cX8_next 112 = .ok (.ldc2_w 161, 3) := by decide +kernel
theorem dX8_next_115 : decode cX8_next 115 = .ok (.invokestatic 85, 3) := by decide +kernel
theorem dX8_next_118 : decode cX8_next 118 = .ok (.ifCond .eq 203, 3) := by decide +kernel
theorem dX8_next_121 : decode cX8_next 121 = .ok (.aload_n 0, 1) := by decide +kernel
theorem dX8_next_122 : decode cX8_next 122 = .ok (.dup, 1) := by decide +kernel
theorem dX8_next_123 : decode cX8_next 123 = .ok (.getfield 147, 3) := by decide +kernel
theorem dX8_next_126 : decode cX8_next 126 = .ok (.iconst 1, 1) := by decide +kernel
theorem dX8_next_127 : decode cX8_next 127 = .ok (.iadd, 1) := by decide +kernel
theorem dX8_next_128 : decode cX8_next 128 = .ok (.putfield 147, 3) := by decide +kernel
theorem dX8_next_131 : decode cX8_next 131 = .ok (.goto (-31), 3) := by decide +kernel
theorem dX8_next_134 : decode cX8_next 134 = .ok (.iload_n 1, 1) := by decide +kernel
theorem dX8_next_135 : decode cX8_next 135 = .ok (.i2l, 1) := by decide +kernel
theorem dX8_next_136 : decode cX8_next 136 = .ok (.ldc2_w 163, 3) := by decide +kernel
theorem dX8_next_139 : decode cX8_next 139 = .ok (.ldc2_w 165, 3) := by decide +kernel
theorem dX8_next_142 : decode cX8_next 142 = .ok (.invokestatic 85, 3) := by decide +kernel
theorem dX8_next_145 : decode cX8_next 145 = .ok (.ifCond .eq 107, 3) := by decide +kernel
theorem dX8_next_148 : decode cX8_next 148 = .ok (.aload_n 0, 1) := by decide +kernel
theorem dX8_next_149 : decode cX8_next 149 = .ok (.iconst 2, 1) := by decide +kernel
theorem dX8_next_150 : decode cX8_next 150 = .ok (.putfield 156, 3) := by decide +kernel
theorem dX8_next_153 : decode cX8_next 153 = .ok (.aload_n 0, 1) := by decide +kernel
theorem dX8_next_154 : decode cX8_next 154 = .ok (.lconst 0, 1) := by decide +kernel
theorem dX8_next_155 : decode cX8_next 155 = .ok (.putfield 167, 3) := by decide +kernel
theorem dX8_next_158 : decode cX8_next 158 = .ok (.iconst 0, 1) := by decide +kernel
theorem dX8_next_159 : decode cX8_next 159 = .ok (.istore_n 2, 1) := by decide +kernel
theorem dX8_next_160 : decode cX8_next 160 = .ok (.aload_n 0, 1) := by decide +kernel
theorem dX8_next_161 : decode cX8_next 161 = .ok (.aload_n 0, 1) := by decide +kernel
theorem dX8_next_162 : decode cX8_next 162 = .ok (.getfield 147, 3) := by decide +kernel
theorem dX8_next_165 : decode cX8_next 165 = .ok (.invokevirtual 150, 3) := by decide +kernel
theorem dX8_next_168 : decode cX8_next 168 = .ok (.i2l, 1) := by decide +kernel
theorem dX8_next_169 : decode cX8_next 169 = .ok (.ldc2_w 163, 3) := by decide +kernel
theorem dX8_next_172 : decode cX8_next 172 = .ok (.ldc2_w 165, 3) := by decide +kernel
theorem dX8_next_175 : decode cX8_next 175 = .ok (.invokestatic 85, 3) := by decide +kernel
theorem dX8_next_178 : decode cX8_next 178 = .ok (.ifCond .eq 57, 3) := by decide +kernel
theorem dX8_next_181 : decode cX8_next 181 = .ok (.aload_n 0, 1) := by decide +kernel
theorem dX8_next_182 : decode cX8_next 182 = .ok (.iload_n 2, 1) := by decide +kernel
theorem dX8_next_183 : decode cX8_next 183 = .ok (.iconst 4, 1) := by decide +kernel
theorem dX8_next_184 : decode cX8_next 184 = .ok (.if_icmp .ge 28, 3) := by decide +kernel
theorem dX8_next_187 : decode cX8_next 187 = .ok (.ldc2_w 120, 3) := by decide +kernel
theorem dX8_next_190 : decode cX8_next 190 = .ok (.aload_n 0, 1) := by decide +kernel
theorem dX8_next_191 : decode cX8_next 191 = .ok (.getfield 167, 3) := by decide +kernel
theorem dX8_next_194 : decode cX8_next 194 = .ok (.lmul, 1) := by decide +kernel
theorem dX8_next_195 : decode cX8_next 195 = .ok (.aload_n 0, 1) := by decide +kernel
theorem dX8_next_196 : decode cX8_next 196 = .ok (.aload_n 0, 1) := by decide +kernel
theorem dX8_next_197 : decode cX8_next 197 = .ok (.getfield 147, 3) := by decide +kernel
theorem dX8_next_200 : decode cX8_next 200 = .ok (.invokevirtual 150, 3) := by decide +kernel
theorem dX8_next_203 : decode cX8_next 203 = .ok (.i2l, 1) := by decide +kernel
theorem dX8_next_204 : decode cX8_next 204 = .ok (.ladd, 1) := by decide +kernel
theorem dX8_next_205 : decode cX8_next 205 = .ok (.ldc2_w 163, 3) := by decide +kernel
theorem dX8_next_208 : decode cX8_next 208 = .ok (.lsub, 1) := by decide +kernel
theorem dX8_next_209 : decode cX8_next 209 = .ok (.goto 7, 3) := by decide +kernel
theorem dX8_next_212 : decode cX8_next 212 = .ok (.aload_n 0, 1) := by decide +kernel
theorem dX8_next_213 : decode cX8_next 213 = .ok (.getfield 167, 3) := by decide +kernel
theorem dX8_next_216 : decode cX8_next 216 = .ok (.putfield 167, 3) := by decide +kernel
theorem dX8_next_219 : decode cX8_next 219 = .ok (.iinc 2 1, 3) := by decide +kernel
theorem dX8_next_222 : decode cX8_next 222 = .ok (.aload_n 0, 1) := by decide +kernel
theorem dX8_next_223 : decode cX8_next 223 = .ok (.dup, 1) := by decide +kernel
theorem dX8_next_224 : decode cX8_next 224 = .ok (.getfield 147, 3) := by decide +kernel
theorem dX8_next_227 : decode cX8_next 227 = .ok (.iconst 1, 1) := by decide +kernel
theorem dX8_next_228 : decode cX8_next 228 = .ok (.iadd, 1) := by decide +kernel
theorem dX8_next_229 : decode cX8_next 229 = .ok (.putfield 147, 3) := by decide +kernel
theorem dX8_next_232 : decode cX8_next 232 = .ok (.goto (-72), 3) := by decide +kernel
theorem dX8_next_235 : decode cX8_next 235 = .ok (.aload_n 0, 1) := by decide +kernel
theorem dX8_next_236 : decode cX8_next 236 = .ok (.iload_n 2, 1) := by decide +kernel
theorem dX8_next_237 : decode cX8_next 237 = .ok (.iconst 4, 1) := by decide +kernel
theorem dX8_next_238 : decode cX8_next 238 = .ok (.if_icmp .le 7, 3) := by decide +kernel
theorem dX8_next_241 : decode cX8_next 241 = .ok (.iconst 4, 1) := by decide +kernel
theorem dX8_next_242 : decode cX8_next 242 = .ok (.goto 4, 3) := by decide +kernel
theorem dX8_next_245 : decode cX8_next 245 = .ok (.iconst 2, 1) := by decide +kernel
theorem dX8_next_246 : decode cX8_next 246 = .ok (.putfield 156, 3) := by decide +kernel
theorem dX8_next_249 : decode cX8_next 249 = .ok (.goto 72, 3) := by decide +kernel
theorem dX8_next_252 : decode cX8_next 252 = .ok (.iload_n 1, 1) := by decide +kernel
theorem dX8_next_253 : decode cX8_next 253 = .ok (.bipush 40, 2) := by decide +kernel
theorem dX8_next_255 : decode cX8_next 255 = .ok (.if_icmp .eq 45, 3) := by decide +kernel
theorem dX8_next_258 : decode cX8_next 258 = .ok (.iload_n 1, 1) := by decide +kernel
theorem dX8_next_259 : decode cX8_next 259 = .ok (.bipush 41, 2) := by decide +kernel
theorem dX8_next_261 : decode cX8_next 261 = .ok (.if_icmp .eq 39, 3) := by decide +kernel
theorem dX8_next_264 : decode cX8_next 264 = .ok (.iload_n 1, 1) := by decide +kernel
theorem dX8_next_265 : decode cX8_next 265 = .ok (.bipush 59, 2) := by decide +kernel
theorem dX8_next_267 : decode cX8_next 267 = .ok (.if_icmp .eq 33, 3) := by decide +kernel
theorem dX8_next_270 : decode cX8_next 270 = .ok (.iload_n 1, 1) := by decide +kernel
theorem dX8_next_271 : decode cX8_next 271 = .ok (.bipush 43, 2) := by decide +kernel
theorem dX8_next_273 : decode cX8_next 273 = .ok (.if_icmp .eq 27, 3) := by decide +kernel
theorem dX8_next_276 : decode cX8_next 276 = .ok (.iload_n 1, 1) := by decide +kernel
theorem dX8_next_277 : decode cX8_next 277 = .ok (.bipush 45, 2) := by decide +kernel
theorem dX8_next_279 : decode cX8_next 279 = .ok (.if_icmp .eq 21, 3) := by decide +kernel
theorem dX8_next_282 : decode cX8_next 282 = .ok (.iload_n 1, 1) := by decide +kernel
theorem dX8_next_283 : decode cX8_next 283 = .ok (.bipush 42, 2) := by decide +kernel
theorem dX8_next_285 : decode cX8_next 285 = .ok (.if_icmp .eq 15, 3) := by decide +kernel
theorem dX8_next_288 : decode cX8_next 288 = .ok (.iload_n 1, 1) := by decide +kernel
theorem dX8_next_289 : decode cX8_next 289 = .ok (.bipush 60, 2) := by decide +kernel
theorem dX8_next_291 : decode cX8_next 291 = .ok (.if_icmp .eq 9, 3) := by decide +kernel
theorem dX8_next_294 : decode cX8_next 294 = .ok (.iload_n 1, 1) := by decide +kernel
theorem dX8_next_295 : decode cX8_next 295 = .ok (.bipush 61, 2) := by decide +kernel
theorem dX8_next_297 : decode cX8_next 297 = .ok (.if_icmp .ne 24, 3) := by decide +kernel
theorem dX8_next_300 : decode cX8_next 300 = .ok (.aload_n 0, 1) := by decide +kernel
theorem dX8_next_301 : decode cX8_next 301 = .ok (.iconst 3, 1) := by decide +kernel
theorem dX8_next_302 : decode cX8_next 302 = .ok (.putfield 156, 3) := by decide +kernel
theorem dX8_next_305 : decode cX8_next 305 = .ok (.aload_n 0, 1) := by decide +kernel
theorem dX8_next_306 : decode cX8_next 306 = .ok (.iload_n 1, 1) := by decide +kernel
theorem dX8_next_307 : decode cX8_next 307 = .ok (.i2l, 1) := by decide +kernel
theorem dX8_next_308 : decode cX8_next 308 = .ok (.putfield 167, 3) := by decide +kernel
theorem dX8_next_311 : decode cX8_next 311 = .ok (.aload_n 0, 1) := by decide +kernel
theorem dX8_next_312 : decode cX8_next 312 = .ok (.dup, 1) := by decide +kernel
theorem dX8_next_313 : decode cX8_next 313 = .ok (.getfield 147, 3) := by decide +kernel
theorem dX8_next_316 : decode cX8_next 316 = .ok (.iconst 1, 1) := by decide +kernel
theorem dX8_next_317 : decode cX8_next 317 = .ok (.iadd, 1) := by decide +kernel
theorem dX8_next_318 : decode cX8_next 318 = .ok (.putfield 147, 3) := by decide +kernel
theorem dX8_next_321 : decode cX8_next 321 = .ok (.return_, 1) := by decide +kernel
theorem dX8_fail_0 : decode cX8_fail 0 = .ok (.aload_n 0, 1) := by decide +kernel
theorem dX8_fail_1 : decode cX8_fail 1 = .ok (.getfield 171, 3) := by decide +kernel
theorem dX8_fail_4 : decode cX8_fail 4 = .ok (.ifCond .ne 16, 3) := by decide +kernel
theorem dX8_fail_7 : decode cX8_fail 7 = .ok (.aload_n 0, 1) := by decide +kernel
theorem dX8_fail_8 : decode cX8_fail 8 = .ok (.iconst 1, 1) := by decide +kernel
theorem dX8_fail_9 : decode cX8_fail 9 = .ok (.putfield 171, 3) := by decide +kernel
theorem dX8_fail_12 : decode cX8_fail 12 = .ok (.aload_n 0, 1) := by decide +kernel
theorem dX8_fail_13 : decode cX8_fail 13 = .ok (.aload_n 0, 1) := by decide +kernel
theorem dX8_fail_14 : decode cX8_fail 14 = .ok (.getfield 153, 3) := by decide +kernel
theorem dX8_fail_17 : decode cX8_fail 17 = .ok (.putfield 175, 3) := by decide +kernel
theorem dX8_fail_20 : decode cX8_fail 20 = .ok (.return_, 1) := by decide +kernel
theorem dX8_isLetter_0 : decode cX8_isLetter 0 = .ok (.aload_n 0, 1) := by decide +kernel
theorem dX8_isLetter_1 : decode cX8_isLetter 1 = .ok (.getfield 153, 3) := by decide +kernel
theorem dX8_isLetter_4 : decode cX8_isLetter 4 = .ok (.iload_n 1, 1) := by decide +kernel
theorem dX8_isLetter_5 : decode cX8_isLetter 5 = .ok (.iadd, 1) := by decide +kernel
theorem dX8_isLetter_6 : decode cX8_isLetter 6 = .ok (.aload_n 0, 1) := by decide +kernel
theorem dX8_isLetter_7 : decode cX8_isLetter 7 = .ok (.getfield 147, 3) := by decide +kernel
theorem dX8_isLetter_10 : decode cX8_isLetter 10 = .ok (.if_icmp .ge 25, 3) := by decide +kernel
theorem dX8_isLetter_13 : decode cX8_isLetter 13 = .ok (.aload_n 0, 1) := by decide +kernel
theorem dX8_isLetter_14 : decode cX8_isLetter 14 = .ok (.aload_n 0, 1) := by decide +kernel
theorem dX8_isLetter_15 : decode cX8_isLetter 15 = .ok (.getfield 153, 3) := by decide +kernel
theorem dX8_isLetter_18 : decode cX8_isLetter 18 = .ok (.iload_n 1, 1) := by decide +kernel
theorem dX8_isLetter_19 : decode cX8_isLetter 19 = .ok (.iadd, 1) := by decide +kernel
theorem dX8_isLetter_20 : decode cX8_isLetter 20 = .ok (.invokevirtual 150, 3) := by decide +kernel
theorem dX8_isLetter_23 : decode cX8_isLetter 23 = .ok (.iload_n 2, 1) := by decide +kernel
theorem dX8_isLetter_24 : decode cX8_isLetter 24 = .ok (.if_icmp .ne 7, 3) := by decide +kernel
theorem dX8_isLetter_27 : decode cX8_isLetter 27 = .ok (.iconst 1, 1) := by decide +kernel
theorem dX8_isLetter_28 : decode cX8_isLetter 28 = .ok (.goto 16, 3) := by decide +kernel
theorem dX8_isLetter_31 : decode cX8_isLetter 31 = .ok (.iconst 0, 1) := by decide +kernel
theorem dX8_isLetter_32 : decode cX8_isLetter 32 = .ok (.goto 12, 3) := by decide +kernel
theorem dX8_isLetter_35 : decode cX8_isLetter 35 = .ok (.iload_n 2, 1) := by decide +kernel
theorem dX8_isLetter_36 : decode cX8_isLetter 36 = .ok (.ifCond .ne 7, 3) := by decide +kernel
theorem dX8_isLetter_39 : decode cX8_isLetter 39 = .ok (.iconst 1, 1) := by decide +kernel
theorem dX8_isLetter_40 : decode cX8_isLetter 40 = .ok (.goto 4, 3) := by decide +kernel
theorem dX8_isLetter_43 : decode cX8_isLetter 43 = .ok (.iconst 0, 1) := by decide +kernel
theorem dX8_isLetter_44 : decode cX8_isLetter 44 = .ok (.ireturn, 1) := by decide +kernel
theorem dX8_isWord_0 : decode cX8_isWord 0 = .ok (.aload_n 0, 1) := by decide +kernel
theorem dX8_isWord_1 : decode cX8_isWord 1 = .ok (.getfield 171, 3) := by decide +kernel
theorem dX8_isWord_4 : decode cX8_isWord 4 = .ok (.ifCond .ne 108, 3) := by decide +kernel
theorem dX8_isWord_7 : decode cX8_isWord 7 = .ok (.aload_n 0, 1) := by decide +kernel
theorem dX8_isWord_8 : decode cX8_isWord 8 = .ok (.getfield 156, 3) := by decide +kernel
theorem dX8_isWord_11 : decode cX8_isWord 11 = .ok (.iconst 1, 1) := by decide +kernel
theorem dX8_isWord_12 : decode cX8_isWord 12 = .ok (.if_icmp .ne 100, 3) := by decide +kernel
theorem dX8_isWord_15 : decode cX8_isWord 15 = .ok (.aload_n 0, 1) := by decide +kernel
theorem dX8_isWord_16 : decode cX8_isWord 16 = .ok (.getfield 147, 3) := by decide +kernel
theorem dX8_isWord_19 : decode cX8_isWord 19 = .ok (.aload_n 0, 1) := by decide +kernel
theorem dX8_isWord_20 : decode cX8_isWord 20 = .ok (.getfield 153, 3) := by decide +kernel
theorem dX8_isWord_23 : decode cX8_isWord 23 = .ok (.bipush 8, 2) := by decide +kernel
theorem dX8_isWord_25 : decode cX8_isWord 25 = .ok (.iadd, 1) := by decide +kernel
theorem dX8_isWord_26 : decode cX8_isWord 26 = .ok (.if_icmp .gt 86, 3) := by decide +kernel
theorem dX8_isWord_29 : decode cX8_isWord 29 = .ok (.aload_n 0, 1) := by decide +kernel
theorem dX8_isWord_30 : decode cX8_isWord 30 = .ok (.iconst 0, 1) := by decide +kernel
theorem dX8_isWord_31 : decode cX8_isWord 31 = .ok (.iload_n 1, 1) := by decide +kernel
theorem dX8_isWord_32 : decode cX8_isWord 32 = .ok (.invokevirtual 178, 3) := by decide +kernel
theorem dX8_isWord_35 : decode cX8_isWord 35 = .ok (.ifCond .eq 77, 3) := by decide +kernel
theorem dX8_isWord_38 : decode cX8_isWord 38 = .ok (.aload_n 0, 1) := by decide +kernel
theorem dX8_isWord_39 : decode cX8_isWord 39 = .ok (.iconst 1, 1) := by decide +kernel
theorem dX8_isWord_40 : decode cX8_isWord 40 = .ok (.iload_n 2, 1) := by decide +kernel
theorem dX8_isWord_41 : decode cX8_isWord 41 = .ok (.invokevirtual 178, 3) := by decide +kernel
theorem dX8_isWord_44 : decode cX8_isWord 44 = .ok (.ifCond .eq 68, 3) := by decide +kernel
theorem dX8_isWord_47 : decode cX8_isWord 47 = .ok (.aload_n 0, 1) := by decide +kernel
theorem dX8_isWord_48 : decode cX8_isWord 48 = .ok (.iconst 2, 1) := by decide +kernel
theorem dX8_isWord_49 : decode cX8_isWord 49 = .ok (.iload_n 3, 1) := by decide +kernel
theorem dX8_isWord_50 : decode cX8_isWord 50 = .ok (.invokevirtual 178, 3) := by decide +kernel
theorem dX8_isWord_53 : decode cX8_isWord 53 = .ok (.ifCond .eq 59, 3) := by decide +kernel
theorem dX8_isWord_56 : decode cX8_isWord 56 = .ok (.aload_n 0, 1) := by decide +kernel
theorem dX8_isWord_57 : decode cX8_isWord 57 = .ok (.iconst 3, 1) := by decide +kernel
theorem dX8_isWord_58 : decode cX8_isWord 58 = .ok (.iload 4, 2) := by decide +kernel
theorem dX8_isWord_60 : decode cX8_isWord 60 = .ok (.invokevirtual 178, 3) := by decide +kernel
theorem dX8_isWord_63 : decode cX8_isWord 63 = .ok (.ifCond .eq 49, 3) := by decide +kernel
theorem dX8_isWord_66 : decode cX8_isWord 66 = .ok (.aload_n 0, 1) := by decide +kernel
theorem dX8_isWord_67 : decode cX8_isWord 67 = .ok (.iconst 4, 1) := by decide +kernel
theorem dX8_isWord_68 : decode cX8_isWord 68 = .ok (.iload 5, 2) := by decide +kernel
theorem dX8_isWord_70 : decode cX8_isWord 70 = .ok (.invokevirtual 178, 3) := by decide +kernel
theorem dX8_isWord_73 : decode cX8_isWord 73 = .ok (.ifCond .eq 39, 3) := by decide +kernel
theorem dX8_isWord_76 : decode cX8_isWord 76 = .ok (.aload_n 0, 1) := by decide +kernel
theorem dX8_isWord_77 : decode cX8_isWord 77 = .ok (.iconst 5, 1) := by decide +kernel
theorem dX8_isWord_78 : decode cX8_isWord 78 = .ok (.iload 6, 2) := by decide +kernel
theorem dX8_isWord_80 : decode cX8_isWord 80 = .ok (.invokevirtual 178, 3) := by decide +kernel
theorem dX8_isWord_83 : decode cX8_isWord 83 = .ok (.ifCond .eq 29, 3) := by decide +kernel
theorem dX8_isWord_86 : decode cX8_isWord 86 = .ok (.aload_n 0, 1) := by decide +kernel
theorem dX8_isWord_87 : decode cX8_isWord 87 = .ok (.bipush 6, 2) := by decide +kernel
theorem dX8_isWord_89 : decode cX8_isWord 89 = .ok (.iload 7, 2) := by decide +kernel
theorem dX8_isWord_91 : decode cX8_isWord 91 = .ok (.invokevirtual 178, 3) := by decide +kernel
theorem dX8_isWord_94 : decode cX8_isWord 94 = .ok (.ifCond .eq 18, 3) := by decide +kernel
theorem dX8_isWord_97 : decode cX8_isWord 97 = .ok (.aload_n 0, 1) := by decide +kernel
theorem dX8_isWord_98 : decode cX8_isWord 98 = .ok (.bipush 7, 2) := by decide +kernel
theorem dX8_isWord_100 : decode cX8_isWord 100 = .ok (.iload 8, 2) := by decide +kernel
theorem dX8_isWord_102 : decode cX8_isWord 102 = .ok (.invokevirtual 178, 3) := by decide +kernel
theorem dX8_isWord_105 : decode cX8_isWord 105 = .ok (.ifCond .eq 7, 3) := by decide +kernel
theorem dX8_isWord_108 : decode cX8_isWord 108 = .ok (.iconst 1, 1) := by decide +kernel
theorem dX8_isWord_109 : decode cX8_isWord 109 = .ok (.goto 4, 3) := by decide +kernel
theorem dX8_isWord_112 : decode cX8_isWord 112 = .ok (.iconst 0, 1) := by decide +kernel
theorem dX8_isWord_113 : decode cX8_isWord 113 = .ok (.ireturn, 1) := by decide +kernel
theorem dX8_isSign_0 : decode cX8_isSign 0 = .ok (.aload_n 0, 1) := by decide +kernel
theorem dX8_isSign_1 : decode cX8_isSign 1 = .ok (.getfield 171, 3) := by decide +kernel
theorem dX8_isSign_4 : decode cX8_isSign 4 = .ok (.ifCond .ne 25, 3) := by decide +kernel
theorem dX8_isSign_7 : decode cX8_isSign 7 = .ok (.aload_n 0, 1) := by decide +kernel
theorem dX8_isSign_8 : decode cX8_isSign 8 = .ok (.getfield 156, 3) := by decide +kernel
theorem dX8_isSign_11 : decode cX8_isSign 11 = .ok (.iconst 3, 1) := by decide +kernel
theorem dX8_isSign_12 : decode cX8_isSign 12 = .ok (.if_icmp .ne 17, 3) := by decide +kernel
theorem dX8_isSign_15 : decode cX8_isSign 15 = .ok (.aload_n 0, 1) := by decide +kernel
theorem dX8_isSign_16 : decode cX8_isSign 16 = .ok (.getfield 167, 3) := by decide +kernel
theorem dX8_isSign_19 : decode cX8_isSign 19 = .ok (.iload_n 1, 1) := by decide +kernel
theorem dX8_isSign_20 : decode cX8_isSign 20 = .ok (.i2l, 1) := by decide +kernel
theorem dX8_isSign_21 : decode cX8_isSign 21 = .ok (.lcmp, 1) := by decide +kernel
theorem dX8_isSign_22 : decode cX8_isSign 22 = .ok (.ifCond .ne 7, 3) := by decide +kernel
theorem dX8_isSign_25 : decode cX8_isSign 25 = .ok (.iconst 1, 1) := by decide +kernel
theorem dX8_isSign_26 : decode cX8_isSign 26 = .ok (.goto 4, 3) := by decide +kernel
theorem dX8_isSign_29 : decode cX8_isSign 29 = .ok (.iconst 0, 1) := by decide +kernel
theorem dX8_isSign_30 : decode cX8_isSign 30 = .ok (.ireturn, 1) := by decide +kernel
theorem dX8_opens_0 : decode cX8_opens 0 = .ok (.aload_n 0, 1) := by decide +kernel
theorem dX8_opens_1 : decode cX8_opens 1 = .ok (.getfield 181, 3) := by decide +kernel
theorem dX8_opens_4 : decode cX8_opens 4 = .ok (.iconst 5, 1) := by decide +kernel
theorem dX8_opens_5 : decode cX8_opens 5 = .ok (.if_icmp .ne 9, 3) := by decide +kernel
theorem dX8_opens_8 : decode cX8_opens 8 = .ok (.aload_n 0, 1) := by decide +kernel
theorem dX8_opens_9 : decode cX8_opens 9 = .ok (.invokevirtual 184, 3) := by decide +kernel
theorem dX8_opens_12 : decode cX8_opens 12 = .ok (.iconst 0, 1) := by decide +kernel
theorem dX8_opens_13 : decode cX8_opens 13 = .ok (.ireturn, 1) := by decide +kernel
theorem dX8_opens_14 : decode cX8_opens 14 = .ok (.aload_n 0, 1) := by decide +kernel
theorem dX8_opens_15 : decode cX8_opens 15 = .ok (.dup, 1) := by decide +kernel
theorem dX8_opens_16 : decode cX8_opens 16 = .ok (.getfield 181, 3) := by decide +kernel
theorem dX8_opens_19 : decode cX8_opens 19 = .ok (.iconst 1, 1) := by decide +kernel
theorem dX8_opens_20 : decode cX8_opens 20 = .ok (.iadd, 1) := by decide +kernel
theorem dX8_opens_21 : decode cX8_opens 21 = .ok (.putfield 181, 3) := by decide +kernel
theorem dX8_opens_24 : decode cX8_opens 24 = .ok (.aload_n 0, 1) := by decide +kernel
theorem dX8_opens_25 : decode cX8_opens 25 = .ok (.invokevirtual 187, 3) := by decide +kernel
theorem dX8_opens_28 : decode cX8_opens 28 = .ok (.iconst 1, 1) := by decide +kernel
theorem dX8_opens_29 : decode cX8_opens 29 = .ok (.ireturn, 1) := by decide +kernel
theorem dX8_name_0 : decode cX8_name 0 = .ok (.aload_n 0, 1) := by decide +kernel
theorem dX8_name_1 : decode cX8_name 1 = .ok (.bipush 100, 2) := by decide +kernel
theorem dX8_name_3 : decode cX8_name 3 = .ok (.bipush 101, 2) := by decide +kernel
theorem dX8_name_5 : decode cX8_name 5 = .ok (.bipush 98, 2) := by decide +kernel
theorem dX8_name_7 : decode cX8_name 7 = .ok (.bipush 116, 2) := by decide +kernel
theorem dX8_name_9 : decode cX8_name 9 = .ok (.iconst 0, 1) := by decide +kernel
theorem dX8_name_10 : decode cX8_name 10 = .ok (.iconst 0, 1) := by decide +kernel
theorem dX8_name_11 : decode cX8_name 11 = .ok (.iconst 0, 1) := by decide +kernel
theorem dX8_name_12 : decode cX8_name 12 = .ok (.iconst 0, 1) := by decide +kernel
theorem dX8_name_13 : decode cX8_name 13 = .ok (.invokevirtual 190, 3) := by decide +kernel
theorem dX8_name_16 : decode cX8_name 16 = .ok (.ifCond .eq 8, 3) := by decide +kernel
theorem dX8_name_19 : decode cX8_name 19 = .ok (.aload_n 0, 1) := by decide +kernel
theorem dX8_name_20 : decode cX8_name 20 = .ok (.getfield 194, 3) := by decide +kernel
theorem dX8_name_23 : decode cX8_name 23 = .ok (.ireturn, 1) := by decide +kernel
theorem dX8_name_24 : decode cX8_name 24 = .ok (.aload_n 0, 1) := by decide +kernel
theorem dX8_name_25 : decode cX8_name 25 = .ok (.bipush 98, 2) := by decide +kernel
theorem dX8_name_27 : decode cX8_name 27 = .ok (.bipush 97, 2) := by decide +kernel
theorem dX8_name_29 : decode cX8_name 29 = .ok (.bipush 99, 2) := by decide +kernel
theorem dX8_name_31 : decode cX8_name 31 = .ok (.bipush 107, 2) := by decide +kernel
theorem dX8_name_33 : decode cX8_name 33 = .ok (.iconst 0, 1) := by decide +kernel
theorem dX8_name_34 : decode cX8_name 34 = .ok (.iconst 0, 1) := by decide +kernel
theorem dX8_name_35 : decode cX8_name 35 = .ok (.iconst 0, 1) := by decide +kernel
theorem dX8_name_36 : decode cX8_name 36 = .ok (.iconst 0, 1) := by decide +kernel
theorem dX8_name_37 : decode cX8_name 37 = .ok (.invokevirtual 190, 3) := by decide +kernel
theorem dX8_name_40 : decode cX8_name 40 = .ok (.ifCond .eq 8, 3) := by decide +kernel
theorem dX8_name_43 : decode cX8_name 43 = .ok (.aload_n 0, 1) := by decide +kernel
theorem dX8_name_44 : decode cX8_name 44 = .ok (.getfield 197, 3) := by decide +kernel
theorem dX8_name_47 : decode cX8_name 47 = .ok (.ireturn, 1) := by decide +kernel
theorem dX8_name_48 : decode cX8_name 48 = .ok (.aload_n 0, 1) := by decide +kernel
theorem dX8_name_49 : decode cX8_name 49 = .ok (.bipush 110, 2) := by decide +kernel
theorem dX8_name_51 : decode cX8_name 51 = .ok (.bipush 117, 2) := by decide +kernel
theorem dX8_name_53 : decode cX8_name 53 = .ok (.bipush 109, 2) := by decide +kernel
theorem dX8_name_55 : decode cX8_name 55 = .ok (.bipush 98, 2) := by decide +kernel
theorem dX8_name_57 : decode cX8_name 57 = .ok (.bipush 101, 2) := by decide +kernel
theorem dX8_name_59 : decode cX8_name 59 = .ok (.bipush 114, 2) := by decide +kernel
theorem dX8_name_61 : decode cX8_name 61 = .ok (.iconst 0, 1) := by decide +kernel
theorem dX8_name_62 : decode cX8_name 62 = .ok (.iconst 0, 1) := by decide +kernel
theorem dX8_name_63 : decode cX8_name 63 = .ok (.invokevirtual 190, 3) := by decide +kernel
theorem dX8_name_66 : decode cX8_name 66 = .ok (.ifCond .eq 8, 3) := by decide +kernel
theorem dX8_name_69 : decode cX8_name 69 = .ok (.aload_n 0, 1) := by decide +kernel
theorem dX8_name_70 : decode cX8_name 70 = .ok (.getfield 200, 3) := by decide +kernel
theorem dX8_name_73 : decode cX8_name 73 = .ok (.ireturn, 1) := by decide +kernel
theorem dX8_name_74 : decode cX8_name 74 = .ok (.aload_n 0, 1) := by decide +kernel
theorem dX8_name_75 : decode cX8_name 75 = .ok (.bipush 115, 2) := by decide +kernel
theorem dX8_name_77 : decode cX8_name 77 = .ok (.bipush 101, 2) := by decide +kernel
theorem dX8_name_79 : decode cX8_name 79 = .ok (.bipush 97, 2) := by decide +kernel
theorem dX8_name_81 : decode cX8_name 81 = .ok (.bipush 116, 2) := by decide +kernel
theorem dX8_name_83 : decode cX8_name 83 = .ok (.bipush 115, 2) := by decide +kernel
theorem dX8_name_85 : decode cX8_name 85 = .ok (.iconst 0, 1) := by decide +kernel
theorem dX8_name_86 : decode cX8_name 86 = .ok (.iconst 0, 1) := by decide +kernel
theorem dX8_name_87 : decode cX8_name 87 = .ok (.iconst 0, 1) := by decide +kernel
theorem dX8_name_88 : decode cX8_name 88 = .ok (.invokevirtual 190, 3) := by decide +kernel
theorem dX8_name_91 : decode cX8_name 91 = .ok (.ifCond .eq 8, 3) := by decide +kernel
theorem dX8_name_94 : decode cX8_name 94 = .ok (.aload_n 0, 1) := by decide +kernel
theorem dX8_name_95 : decode cX8_name 95 = .ok (.getfield 203, 3) := by decide +kernel
theorem dX8_name_98 : decode cX8_name 98 = .ok (.ireturn, 1) := by decide +kernel
theorem dX8_name_99 : decode cX8_name 99 = .ok (.aload_n 0, 1) := by decide +kernel
theorem dX8_name_100 : decode cX8_name 100 = .ok (.bipush 115, 2) := by decide +kernel
theorem dX8_name_102 : decode cX8_name 102 = .ok (.bipush 101, 2) := by decide +kernel
theorem dX8_name_104 : decode cX8_name 104 = .ok (.bipush 97, 2) := by decide +kernel
theorem dX8_name_106 : decode cX8_name 106 = .ok (.bipush 116, 2) := by decide +kernel
theorem dX8_name_108 : decode cX8_name 108 = .ok (.iconst 0, 1) := by decide +kernel
theorem dX8_name_109 : decode cX8_name 109 = .ok (.iconst 0, 1) := by decide +kernel
theorem dX8_name_110 : decode cX8_name 110 = .ok (.iconst 0, 1) := by decide +kernel
theorem dX8_name_111 : decode cX8_name 111 = .ok (.iconst 0, 1) := by decide +kernel
theorem dX8_name_112 : decode cX8_name 112 = .ok (.invokevirtual 190, 3) := by decide +kernel
theorem dX8_name_115 : decode cX8_name 115 = .ok (.ifCond .eq 8, 3) := by decide +kernel
theorem dX8_name_118 : decode cX8_name 118 = .ok (.aload_n 0, 1) := by decide +kernel
theorem dX8_name_119 : decode cX8_name 119 = .ok (.getfield 206, 3) := by decide +kernel
theorem dX8_name_122 : decode cX8_name 122 = .ok (.ireturn, 1) := by decide +kernel
theorem dX8_name_123 : decode cX8_name 123 = .ok (.aload_n 0, 1) := by decide +kernel
theorem dX8_name_124 : decode cX8_name 124 = .ok (.bipush 119, 2) := by decide +kernel
theorem dX8_name_126 : decode cX8_name 126 = .ok (.bipush 97, 2) := by decide +kernel
theorem dX8_name_128 : decode cX8_name 128 = .ok (.bipush 110, 2) := by decide +kernel
theorem dX8_name_130 : decode cX8_name 130 = .ok (.bipush 116, 2) := by decide +kernel
theorem dX8_name_132 : decode cX8_name 132 = .ok (.bipush 101, 2) := by decide +kernel
theorem dX8_name_134 : decode cX8_name 134 = .ok (.bipush 100, 2) := by decide +kernel
theorem dX8_name_136 : decode cX8_name 136 = .ok (.iconst 0, 1) := by decide +kernel
theorem dX8_name_137 : decode cX8_name 137 = .ok (.iconst 0, 1) := by decide +kernel
theorem dX8_name_138 : decode cX8_name 138 = .ok (.invokevirtual 190, 3) := by decide +kernel
theorem dX8_name_141 : decode cX8_name 141 = .ok (.ifCond .eq 8, 3) := by decide +kernel
theorem dX8_name_144 : decode cX8_name 144 = .ok (.aload_n 0, 1) := by decide +kernel
theorem dX8_name_145 : decode cX8_name 145 = .ok (.getfield 209, 3) := by decide +kernel
theorem dX8_name_148 : decode cX8_name 148 = .ok (.ireturn, 1) := by decide +kernel
theorem dX8_name_149 : decode cX8_name 149 = .ok (.aload_n 0, 1) := by decide +kernel
theorem dX8_name_150 : decode cX8_name 150 = .ok (.invokevirtual 184, 3) := by decide +kernel
theorem dX8_name_153 : decode cX8_name 153 = .ok (.iconst 0, 1) := by decide +kernel
theorem dX8_name_154 : decode cX8_name 154 = .ok (.ireturn, 1) := by decide +kernel
theorem dX8_atom_0 : decode cX8_atom 0 = .ok (.iconst 0, 1) := by decide +kernel
theorem dX8_atom_1 : decode cX8_atom 1 = .ok (.istore_n 1, 1) := by decide +kernel
theorem dX8_atom_2 : decode cX8_atom 2 = .ok (.aload_n 0, 1) := by decide +kernel
theorem dX8_atom_3 : decode cX8_atom 3 = .ok (.bipush 45, 2) := by decide +kernel
theorem dX8_atom_5 : decode cX8_atom 5 = .ok (.invokevirtual 212, 3) := by decide +kernel
theorem dX8_atom_8 : decode cX8_atom 8 = .ok (.ifCond .eq 29, 3) := by decide +kernel
theorem dX8_atom_11 : decode cX8_atom 11 = .ok (.aload_n 0, 1) := by decide +kernel
theorem dX8_atom_12 : decode cX8_atom 12 = .ok (.invokevirtual 215, 3) := by decide +kernel
theorem dX8_atom_15 : decode cX8_atom 15 = .ok (.ifCond .eq 146, 3) := by decide +kernel
theorem dX8_atom_18 : decode cX8_atom 18 = .ok (.aload_n 0, 1) := by decide +kernel
theorem dX8_atom_19 : decode cX8_atom 19 = .ok (.invokevirtual 219, 3) := by decide +kernel
theorem dX8_atom_22 : decode cX8_atom 22 = .ok (.ineg, 1) := by decide +kernel
theorem dX8_atom_23 : decode cX8_atom 23 = .ok (.istore_n 1, 1) := by decide +kernel
theorem dX8_atom_24 : decode cX8_atom 24 = .ok (.aload_n 0, 1) := by decide +kernel
theorem dX8_atom_25 : decode cX8_atom 25 = .ok (.dup, 1) := by decide +kernel
theorem dX8_atom_26 : decode cX8_atom 26 = .ok (.getfield 181, 3) := by decide +kernel
theorem dX8_atom_29 : decode cX8_atom 29 = .ok (.iconst 1, 1) := by decide +kernel
theorem dX8_atom_30 : decode cX8_atom 30 = .ok (.isub, 1) := by decide +kernel
theorem dX8_atom_31 : decode cX8_atom 31 = .ok (.putfield 181, 3) := by decide +kernel
theorem dX8_atom_34 : decode cX8_atom 34 = .ok (.goto 127, 3) := by decide +kernel
theorem dX8_atom_37 : decode cX8_atom 37 = .ok (.aload_n 0, 1) := by decide +kernel
theorem dX8_atom_38 : decode cX8_atom 38 = .ok (.bipush 40, 2) := by decide +kernel
theorem dX8_atom_40 : decode cX8_atom 40 = .ok (.invokevirtual 212, 3) := by decide +kernel
theorem dX8_atom_43 : decode cX8_atom 43 = .ok (.ifCond .eq 52, 3) := by decide +kernel
theorem dX8_atom_46 : decode cX8_atom 46 = .ok (.aload_n 0, 1) := by decide +kernel
theorem dX8_atom_47 : decode cX8_atom 47 = .ok (.invokevirtual 215, 3) := by decide +kernel
theorem dX8_atom_50 : decode cX8_atom 50 = .ok (.ifCond .eq 111, 3) := by decide +kernel
theorem dX8_atom_53 : decode cX8_atom 53 = .ok (.aload_n 0, 1) := by decide +kernel
theorem dX8_atom_54 : decode cX8_atom 54 = .ok (.invokevirtual 223, 3) := by decide +kernel
theorem dX8_atom_57 : decode cX8_atom 57 = .ok (.istore_n 1, 1) := by decide +kernel
theorem dX8_atom_58 : decode cX8_atom 58 = .ok (.aload_n 0, 1) := by decide +kernel
theorem dX8_atom_59 : decode cX8_atom 59 = .ok (.bipush 41, 2) := by decide +kernel
theorem dX8_atom_61 : decode cX8_atom 61 = .ok (.invokevirtual 212, 3) := by decide +kernel
theorem dX8_atom_64 : decode cX8_atom 64 = .ok (.ifCond .ne 7, 3) := by decide +kernel
theorem dX8_atom_67 : decode cX8_atom 67 = .ok (.aload_n 0, 1) := by decide +kernel
theorem dX8_atom_68 : decode cX8_atom 68 = .ok (.invokevirtual 184, 3) := by decide +kernel
theorem dX8_atom_71 : decode cX8_atom 71 = .ok (.aload_n 0, 1) := by decide +kernel
theorem dX8_atom_72 : decode cX8_atom 72 = .ok (.dup, 1) := by decide +kernel
theorem dX8_atom_73 : decode cX8_atom 73 = .ok (.getfield 181, 3) := by decide +kernel
theorem dX8_atom_76 : decode cX8_atom 76 = .ok (.iconst 1, 1) := by decide +kernel
theorem dX8_atom_77 : decode cX8_atom 77 = .ok (.isub, 1) := by decide +kernel
theorem dX8_atom_78 : decode cX8_atom 78 = .ok (.putfield 181, 3) := by decide +kernel
theorem dX8_atom_81 : decode cX8_atom 81 = .ok (.aload_n 0, 1) := by decide +kernel
theorem dX8_atom_82 : decode cX8_atom 82 = .ok (.getfield 171, 3) := by decide +kernel
theorem dX8_atom_85 : decode cX8_atom 85 = .ok (.ifCond .ne 76, 3) := by decide +kernel
theorem dX8_atom_88 : decode cX8_atom 88 = .ok (.aload_n 0, 1) := by decide +kernel
theorem dX8_atom_89 : decode cX8_atom 89 = .ok (.invokevirtual 187, 3) := by decide +kernel
theorem dX8_atom_92 : decode cX8_atom 92 = .ok (.goto 69, 3) := by decide +kernel
theorem dX8_atom_95 : decode cX8_atom 95 = .ok (.aload_n 0, 1) := by decide +kernel
theorem dX8_atom_96 : decode cX8_atom 96 = .ok (.getfield 171, 3) := by decide +kernel
theorem dX8_atom_99 : decode cX8_atom 99 = .ok (.ifCond .ne 24, 3) := by decide +kernel
theorem dX8_atom_102 : decode cX8_atom 102 = .ok (.aload_n 0, 1) := by decide +kernel
theorem dX8_atom_103 : decode cX8_atom 103 = .ok (.getfield 156, 3) := by decide +kernel
theorem dX8_atom_106 : decode cX8_atom 106 = .ok (.iconst 2, 1) := by decide +kernel
theorem dX8_atom_107 : decode cX8_atom 107 = .ok (.if_icmp .ne 16, 3) := by decide +kernel
theorem dX8_atom_110 : decode cX8_atom 110 = .ok (.aload_n 0, 1) := by decide +kernel
theorem dX8_atom_111 : decode cX8_atom 111 = .ok (.getfield 167, 3) := by decide +kernel
theorem dX8_atom_114 : decode cX8_atom 114 = .ok (.l2i, 1) := by decide +kernel
theorem dX8_atom_115 : decode cX8_atom 115 = .ok (.istore_n 1, 1) := by decide +kernel
theorem dX8_atom_116 : decode cX8_atom 116 = .ok (.aload_n 0, 1) := by decide +kernel
theorem dX8_atom_117 : decode cX8_atom 117 = .ok (.invokevirtual 187, 3) := by decide +kernel
theorem dX8_atom_120 : decode cX8_atom 120 = .ok (.goto 41, 3) := by decide +kernel
theorem dX8_atom_123 : decode cX8_atom 123 = .ok (.aload_n 0, 1) := by decide +kernel
theorem dX8_atom_124 : decode cX8_atom 124 = .ok (.getfield 171, 3) := by decide +kernel
theorem dX8_atom_127 : decode cX8_atom 127 = .ok (.ifCond .ne 30, 3) := by decide +kernel
theorem dX8_atom_130 : decode cX8_atom 130 = .ok (.aload_n 0, 1) := by decide +kernel
theorem dX8_atom_131 : decode cX8_atom 131 = .ok (.getfield 156, 3) := by decide +kernel
theorem dX8_atom_134 : decode cX8_atom 134 = .ok (.iconst 1, 1) := by decide +kernel
theorem dX8_atom_135 : decode cX8_atom 135 = .ok (.if_icmp .ne 22, 3) := by decide +kernel
theorem dX8_atom_138 : decode cX8_atom 138 = .ok (.aload_n 0, 1) := by decide +kernel
theorem dX8_atom_139 : decode cX8_atom 139 = .ok (.invokevirtual 226, 3) := by decide +kernel
theorem dX8_atom_142 : decode cX8_atom 142 = .ok (.istore_n 1, 1) := by decide +kernel
theorem dX8_atom_143 : decode cX8_atom 143 = .ok (.aload_n 0, 1) := by decide +kernel
theorem dX8_atom_144 : decode cX8_atom 144 = .ok (.getfield 171, 3) := by decide +kernel
theorem dX8_atom_147 : decode cX8_atom 147 = .ok (.ifCond .ne 14, 3) := by decide +kernel
theorem dX8_atom_150 : decode cX8_atom 150 = .ok (.aload_n 0, 1) := by decide +kernel
theorem dX8_atom_151 : decode cX8_atom 151 = .ok (.invokevirtual 187, 3) := by decide +kernel
theorem dX8_atom_154 : decode cX8_atom 154 = .ok (.goto 7, 3) := by decide +kernel
theorem dX8_atom_157 : decode cX8_atom 157 = .ok (.aload_n 0, 1) := by decide +kernel
theorem dX8_atom_158 : decode cX8_atom 158 = .ok (.invokevirtual 184, 3) := by decide +kernel
theorem dX8_atom_161 : decode cX8_atom 161 = .ok (.iload_n 1, 1) := by decide +kernel
theorem dX8_atom_162 : decode cX8_atom 162 = .ok (.ireturn, 1) := by decide +kernel
theorem dX8_term_0 : decode cX8_term 0 = .ok (.aload_n 0, 1) := by decide +kernel
theorem dX8_term_1 : decode cX8_term 1 = .ok (.invokevirtual 219, 3) := by decide +kernel
theorem dX8_term_4 : decode cX8_term 4 = .ok (.istore_n 1, 1) := by decide +kernel
theorem dX8_term_5 : decode cX8_term 5 = .ok (.aload_n 0, 1) := by decide +kernel
theorem dX8_term_6 : decode cX8_term 6 = .ok (.bipush 42, 2) := by decide +kernel
theorem dX8_term_8 : decode cX8_term 8 = .ok (.invokevirtual 212, 3) := by decide +kernel
theorem dX8_term_11 : decode cX8_term 11 = .ok (.ifCond .eq 17, 3) := by decide +kernel
theorem dX8_term_14 : decode cX8_term 14 = .ok (.aload_n 0, 1) := by decide +kernel
theorem dX8_term_15 : decode cX8_term 15 = .ok (.invokevirtual 187, 3) := by decide +kernel
theorem dX8_term_18 : decode cX8_term 18 = .ok (.iload_n 1, 1) := by decide +kernel
theorem dX8_term_19 : decode cX8_term 19 = .ok (.aload_n 0, 1) := by decide +kernel
theorem dX8_term_20 : decode cX8_term 20 = .ok (.invokevirtual 219, 3) := by decide +kernel
theorem dX8_term_23 : decode cX8_term 23 = .ok (.imul, 1) := by decide +kernel
theorem dX8_term_24 : decode cX8_term 24 = .ok (.istore_n 1, 1) := by decide +kernel
theorem dX8_term_25 : decode cX8_term 25 = .ok (.goto (-20), 3) := by decide +kernel
theorem dX8_term_28 : decode cX8_term 28 = .ok (.iload_n 1, 1) := by decide +kernel
theorem dX8_term_29 : decode cX8_term 29 = .ok (.ireturn, 1) := by decide +kernel
theorem dX8_added_0 : decode cX8_added 0 = .ok (.aload_n 0, 1) := by decide +kernel
theorem dX8_added_1 : decode cX8_added 1 = .ok (.invokevirtual 229, 3) := by decide +kernel
theorem dX8_added_4 : decode cX8_added 4 = .ok (.istore_n 1, 1) := by decide +kernel
theorem dX8_added_5 : decode cX8_added 5 = .ok (.aload_n 0, 1) := by decide +kernel
theorem dX8_added_6 : decode cX8_added 6 = .ok (.bipush 43, 2) := by decide +kernel
theorem dX8_added_8 : decode cX8_added 8 = .ok (.invokevirtual 212, 3) := by decide +kernel
theorem dX8_added_11 : decode cX8_added 11 = .ok (.ifCond .ne 12, 3) := by decide +kernel
theorem dX8_added_14 : decode cX8_added 14 = .ok (.aload_n 0, 1) := by decide +kernel
theorem dX8_added_15 : decode cX8_added 15 = .ok (.bipush 45, 2) := by decide +kernel
theorem dX8_added_17 : decode cX8_added 17 = .ok (.invokevirtual 212, 3) := by decide +kernel
theorem dX8_added_20 : decode cX8_added 20 = .ok (.ifCond .eq 46, 3) := by decide +kernel
theorem dX8_added_23 : decode cX8_added 23 = .ok (.aload_n 0, 1) := by decide +kernel
theorem dX8_added_24 : decode cX8_added 24 = .ok (.getfield 167, 3) := by decide +kernel
theorem dX8_added_27 : decode cX8_added 27 = .ok (.ldc2_w 232, 3) := by decide +kernel
theorem dX8_added_30 : decode cX8_added 30 = .ok (.lcmp, 1) := by decide +kernel
theorem dX8_added_31 : decode cX8_added 31 = .ok (.ifCond .ne 7, 3) := by decide +kernel
theorem dX8_added_34 : decode cX8_added 34 = .ok (.iconst 1, 1) := by decide +kernel
theorem dX8_added_35 : decode cX8_added 35 = .ok (.goto 4, 3) := by decide +kernel
theorem dX8_added_38 : decode cX8_added 38 = .ok (.iconst 0, 1) := by decide +kernel
theorem dX8_added_39 : decode cX8_added 39 = .ok (.istore_n 2, 1) := by decide +kernel
theorem dX8_added_40 : decode cX8_added 40 = .ok (.aload_n 0, 1) := by decide +kernel
theorem dX8_added_41 : decode cX8_added 41 = .ok (.invokevirtual 187, 3) := by decide +kernel
theorem dX8_added_44 : decode cX8_added 44 = .ok (.aload_n 0, 1) := by decide +kernel
theorem dX8_added_45 : decode cX8_added 45 = .ok (.invokevirtual 229, 3) := by decide +kernel
theorem dX8_added_48 : decode cX8_added 48 = .ok (.istore_n 3, 1) := by decide +kernel
theorem dX8_added_49 : decode cX8_added 49 = .ok (.iload_n 2, 1) := by decide +kernel
theorem dX8_added_50 : decode cX8_added 50 = .ok (.ifCond .eq 9, 3) := by decide +kernel
theorem dX8_added_53 : decode cX8_added 53 = .ok (.iload_n 1, 1) := by decide +kernel
theorem dX8_added_54 : decode cX8_added 54 = .ok (.iload_n 3, 1) := by decide +kernel
theorem dX8_added_55 : decode cX8_added 55 = .ok (.iadd, 1) := by decide +kernel
theorem dX8_added_56 : decode cX8_added 56 = .ok (.goto 6, 3) := by decide +kernel
theorem dX8_added_59 : decode cX8_added 59 = .ok (.iload_n 1, 1) := by decide +kernel
theorem dX8_added_60 : decode cX8_added 60 = .ok (.iload_n 3, 1) := by decide +kernel
theorem dX8_added_61 : decode cX8_added 61 = .ok (.isub, 1) := by decide +kernel
theorem dX8_added_62 : decode cX8_added 62 = .ok (.istore_n 1, 1) := by decide +kernel
theorem dX8_added_63 : decode cX8_added 63 = .ok (.goto (-58), 3) := by decide +kernel
theorem dX8_added_66 : decode cX8_added 66 = .ok (.iload_n 1, 1) := by decide +kernel
theorem dX8_added_67 : decode cX8_added 67 = .ok (.ireturn, 1) := by decide +kernel
theorem dX8_not_0 : decode cX8_not 0 = .ok (.aload_n 0, 1) := by decide +kernel
theorem dX8_not_1 : decode cX8_not 1 = .ok (.bipush 110, 2) := by decide +kernel
theorem dX8_not_3 : decode cX8_not 3 = .ok (.bipush 111, 2) := by decide +kernel
theorem dX8_not_5 : decode cX8_not 5 = .ok (.bipush 116, 2) := by decide +kernel
theorem dX8_not_7 : decode cX8_not 7 = .ok (.iconst 0, 1) := by decide +kernel
theorem dX8_not_8 : decode cX8_not 8 = .ok (.iconst 0, 1) := by decide +kernel
theorem dX8_not_9 : decode cX8_not 9 = .ok (.iconst 0, 1) := by decide +kernel
theorem dX8_not_10 : decode cX8_not 10 = .ok (.iconst 0, 1) := by decide +kernel
theorem dX8_not_11 : decode cX8_not 11 = .ok (.iconst 0, 1) := by decide +kernel
theorem dX8_not_12 : decode cX8_not 12 = .ok (.invokevirtual 190, 3) := by decide +kernel
theorem dX8_not_15 : decode cX8_not 15 = .ok (.ifCond .eq 37, 3) := by decide +kernel
theorem dX8_not_18 : decode cX8_not 18 = .ok (.aload_n 0, 1) := by decide +kernel
theorem dX8_not_19 : decode cX8_not 19 = .ok (.invokevirtual 215, 3) := by decide +kernel
theorem dX8_not_22 : decode cX8_not 22 = .ok (.ifCond .ne 5, 3) := by decide +kernel
theorem dX8_not_25 : decode cX8_not 25 = .ok (.iconst 0, 1) := by decide +kernel
theorem dX8_not_26 : decode cX8_not 26 = .ok (.ireturn, 1) := by decide +kernel
theorem dX8_not_27 : decode cX8_not 27 = .ok (.aload_n 0, 1) := by decide +kernel
theorem dX8_not_28 : decode cX8_not 28 = .ok (.invokevirtual 234, 3) := by decide +kernel
theorem dX8_not_31 : decode cX8_not 31 = .ok (.istore_n 1, 1) := by decide +kernel
theorem dX8_not_32 : decode cX8_not 32 = .ok (.aload_n 0, 1) := by decide +kernel
theorem dX8_not_33 : decode cX8_not 33 = .ok (.dup, 1) := by decide +kernel
theorem dX8_not_34 : decode cX8_not 34 = .ok (.getfield 181, 3) := by decide +kernel
theorem dX8_not_37 : decode cX8_not 37 = .ok (.iconst 1, 1) := by decide +kernel
theorem dX8_not_38 : decode cX8_not 38 = .ok (.isub, 1) := by decide +kernel
theorem dX8_not_39 : decode cX8_not 39 = .ok (.putfield 181, 3) := by decide +kernel
theorem dX8_not_42 : decode cX8_not 42 = .ok (.iload_n 1, 1) := by decide +kernel
theorem dX8_not_43 : decode cX8_not 43 = .ok (.ifCond .ne 7, 3) := by decide +kernel
theorem dX8_not_46 : decode cX8_not 46 = .ok (.iconst 1, 1) := by decide +kernel
theorem dX8_not_47 : decode cX8_not 47 = .ok (.goto 4, 3) := by decide +kernel
theorem dX8_not_50 : decode cX8_not 50 = .ok (.iconst 0, 1) := by decide +kernel
theorem dX8_not_51 : decode cX8_not 51 = .ok (.ireturn, 1) := by decide +kernel
theorem dX8_not_52 : decode cX8_not 52 = .ok (.aload_n 0, 1) := by decide +kernel
theorem dX8_not_53 : decode cX8_not 53 = .ok (.invokevirtual 237, 3) := by decide +kernel
theorem dX8_not_56 : decode cX8_not 56 = .ok (.istore_n 1, 1) := by decide +kernel
theorem dX8_not_57 : decode cX8_not 57 = .ok (.aload_n 0, 1) := by decide +kernel
theorem dX8_not_58 : decode cX8_not 58 = .ok (.bipush 60, 2) := by decide +kernel
theorem dX8_not_60 : decode cX8_not 60 = .ok (.invokevirtual 212, 3) := by decide +kernel
theorem dX8_not_63 : decode cX8_not 63 = .ok (.ifCond .ne 14, 3) := by decide +kernel
theorem dX8_not_66 : decode cX8_not 66 = .ok (.aload_n 0, 1) := by decide +kernel
theorem dX8_not_67 : decode cX8_not 67 = .ok (.bipush 61, 2) := by decide +kernel
theorem dX8_not_69 : decode cX8_not 69 = .ok (.invokevirtual 212, 3) := by decide +kernel
theorem dX8_not_72 : decode cX8_not 72 = .ok (.ifCond .ne 5, 3) := by decide +kernel
theorem dX8_not_75 : decode cX8_not 75 = .ok (.iload_n 1, 1) := by decide +kernel
theorem dX8_not_76 : decode cX8_not 76 = .ok (.ireturn, 1) := by decide +kernel
theorem dX8_not_77 : decode cX8_not 77 = .ok (.aload_n 0, 1) := by decide +kernel
theorem dX8_not_78 : decode cX8_not 78 = .ok (.getfield 167, 3) := by decide +kernel
theorem dX8_not_81 : decode cX8_not 81 = .ok (.ldc2_w 240, 3) := by decide +kernel
theorem dX8_not_84 : decode cX8_not 84 = .ok (.lcmp, 1) := by decide +kernel
theorem dX8_not_85 : decode cX8_not 85 = .ok (.ifCond .ne 7, 3) := by decide +kernel
theorem dX8_not_88 : decode cX8_not 88 = .ok (.iconst 1, 1) := by decide +kernel
theorem dX8_not_89 : decode cX8_not 89 = .ok (.goto 4, 3) := by decide +kernel
theorem dX8_not_92 : decode cX8_not 92 = .ok (.iconst 0, 1) := by decide +kernel
theorem dX8_not_93 : decode cX8_not 93 = .ok (.istore_n 2, 1) := by decide +kernel
theorem dX8_not_94 : decode cX8_not 94 = .ok (.aload_n 0, 1) := by decide +kernel
theorem dX8_not_95 : decode cX8_not 95 = .ok (.invokevirtual 187, 3) := by decide +kernel
theorem dX8_not_98 : decode cX8_not 98 = .ok (.aload_n 0, 1) := by decide +kernel
theorem dX8_not_99 : decode cX8_not 99 = .ok (.invokevirtual 237, 3) := by decide +kernel
theorem dX8_not_102 : decode cX8_not 102 = .ok (.istore_n 3, 1) := by decide +kernel
theorem dX8_not_103 : decode cX8_not 103 = .ok (.iload_n 2, 1) := by decide +kernel
theorem dX8_not_104 : decode cX8_not 104 = .ok (.ifCond .eq 11, 3) := by decide +kernel
theorem dX8_not_107 : decode cX8_not 107 = .ok (.iload_n 1, 1) := by decide +kernel
theorem dX8_not_108 : decode cX8_not 108 = .ok (.iload_n 3, 1) := by decide +kernel
theorem dX8_not_109 : decode cX8_not 109 = .ok (.if_icmp .ge 15, 3) := by decide +kernel
theorem dX8_not_112 : decode cX8_not 112 = .ok (.goto 8, 3) := by decide +kernel
theorem dX8_not_115 : decode cX8_not 115 = .ok (.iload_n 1, 1) := by decide +kernel
theorem dX8_not_116 : decode cX8_not 116 = .ok (.iload_n 3, 1) := by decide +kernel
theorem dX8_not_117 : decode cX8_not 117 = .ok (.if_icmp .ne 7, 3) := by decide +kernel
theorem dX8_not_120 : decode cX8_not 120 = .ok (.iconst 1, 1) := by decide +kernel
theorem dX8_not_121 : decode cX8_not 121 = .ok (.goto 4, 3) := by decide +kernel
theorem dX8_not_124 : decode cX8_not 124 = .ok (.iconst 0, 1) := by decide +kernel
theorem dX8_not_125 : decode cX8_not 125 = .ok (.ireturn, 1) := by decide +kernel
theorem dX8_both_0 : decode cX8_both 0 = .ok (.aload_n 0, 1) := by decide +kernel
theorem dX8_both_1 : decode cX8_both 1 = .ok (.invokevirtual 234, 3) := by decide +kernel
theorem dX8_both_4 : decode cX8_both 4 = .ok (.istore_n 1, 1) := by decide +kernel
theorem dX8_both_5 : decode cX8_both 5 = .ok (.aload_n 0, 1) := by decide +kernel
theorem dX8_both_6 : decode cX8_both 6 = .ok (.bipush 97, 2) := by decide +kernel
theorem dX8_both_8 : decode cX8_both 8 = .ok (.bipush 110, 2) := by decide +kernel
theorem dX8_both_10 : decode cX8_both 10 = .ok (.bipush 100, 2) := by decide +kernel
theorem dX8_both_12 : decode cX8_both 12 = .ok (.iconst 0, 1) := by decide +kernel
theorem dX8_both_13 : decode cX8_both 13 = .ok (.iconst 0, 1) := by decide +kernel
theorem dX8_both_14 : decode cX8_both 14 = .ok (.iconst 0, 1) := by decide +kernel
theorem dX8_both_15 : decode cX8_both 15 = .ok (.iconst 0, 1) := by decide +kernel
theorem dX8_both_16 : decode cX8_both 16 = .ok (.iconst 0, 1) := by decide +kernel
theorem dX8_both_17 : decode cX8_both 17 = .ok (.invokevirtual 190, 3) := by decide +kernel
theorem dX8_both_20 : decode cX8_both 20 = .ok (.ifCond .eq 29, 3) := by decide +kernel
theorem dX8_both_23 : decode cX8_both 23 = .ok (.aload_n 0, 1) := by decide +kernel
theorem dX8_both_24 : decode cX8_both 24 = .ok (.invokevirtual 187, 3) := by decide +kernel
theorem dX8_both_27 : decode cX8_both 27 = .ok (.aload_n 0, 1) := by decide +kernel
theorem dX8_both_28 : decode cX8_both 28 = .ok (.invokevirtual 234, 3) := by decide +kernel
theorem dX8_both_31 : decode cX8_both 31 = .ok (.istore_n 2, 1) := by decide +kernel
theorem dX8_both_32 : decode cX8_both 32 = .ok (.iload_n 1, 1) := by decide +kernel
theorem dX8_both_33 : decode cX8_both 33 = .ok (.ifCond .eq 11, 3) := by decide +kernel
theorem dX8_both_36 : decode cX8_both 36 = .ok (.iload_n 2, 1) := by decide +kernel
theorem dX8_both_37 : decode cX8_both 37 = .ok (.ifCond .eq 7, 3) := by decide +kernel
theorem dX8_both_40 : decode cX8_both 40 = .ok (.iconst 1, 1) := by decide +kernel
theorem dX8_both_41 : decode cX8_both 41 = .ok (.goto 4, 3) := by decide +kernel
theorem dX8_both_44 : decode cX8_both 44 = .ok (.iconst 0, 1) := by decide +kernel
theorem dX8_both_45 : decode cX8_both 45 = .ok (.istore_n 1, 1) := by decide +kernel
theorem dX8_both_46 : decode cX8_both 46 = .ok (.goto (-41), 3) := by decide +kernel
theorem dX8_both_49 : decode cX8_both 49 = .ok (.iload_n 1, 1) := by decide +kernel
theorem dX8_both_50 : decode cX8_both 50 = .ok (.ireturn, 1) := by decide +kernel
theorem dX8_either_0 : decode cX8_either 0 = .ok (.aload_n 0, 1) := by decide +kernel
theorem dX8_either_1 : decode cX8_either 1 = .ok (.invokevirtual 242, 3) := by decide +kernel
theorem dX8_either_4 : decode cX8_either 4 = .ok (.istore_n 1, 1) := by decide +kernel
theorem dX8_either_5 : decode cX8_either 5 = .ok (.aload_n 0, 1) := by decide +kernel
theorem dX8_either_6 : decode cX8_either 6 = .ok (.bipush 111, 2) := by decide +kernel
theorem dX8_either_8 : decode cX8_either 8 = .ok (.bipush 114, 2) := by decide +kernel
theorem dX8_either_10 : decode cX8_either 10 = .ok (.iconst 0, 1) := by decide +kernel
theorem dX8_either_11 : decode cX8_either 11 = .ok (.iconst 0, 1) := by decide +kernel
theorem dX8_either_12 : decode cX8_either 12 = .ok (.iconst 0, 1) := by decide +kernel
theorem dX8_either_13 : decode cX8_either 13 = .ok (.iconst 0, 1) := by decide +kernel
theorem dX8_either_14 : decode cX8_either 14 = .ok (.iconst 0, 1) := by decide +kernel
theorem dX8_either_15 : decode cX8_either 15 = .ok (.iconst 0, 1) := by decide +kernel
theorem dX8_either_16 : decode cX8_either 16 = .ok (.invokevirtual 190, 3) := by decide +kernel
theorem dX8_either_19 : decode cX8_either 19 = .ok (.ifCond .eq 29, 3) := by decide +kernel
theorem dX8_either_22 : decode cX8_either 22 = .ok (.aload_n 0, 1) := by decide +kernel
theorem dX8_either_23 : decode cX8_either 23 = .ok (.invokevirtual 187, 3) := by decide +kernel
theorem dX8_either_26 : decode cX8_either 26 = .ok (.aload_n 0, 1) := by decide +kernel
theorem dX8_either_27 : decode cX8_either 27 = .ok (.invokevirtual 242, 3) := by decide +kernel
theorem dX8_either_30 : decode cX8_either 30 = .ok (.istore_n 2, 1) := by decide +kernel
theorem dX8_either_31 : decode cX8_either 31 = .ok (.iload_n 1, 1) := by decide +kernel
theorem dX8_either_32 : decode cX8_either 32 = .ok (.ifCond .ne 7, 3) := by decide +kernel
theorem dX8_either_35 : decode cX8_either 35 = .ok (.iload_n 2, 1) := by decide +kernel
theorem dX8_either_36 : decode cX8_either 36 = .ok (.ifCond .eq 7, 3) := by decide +kernel
theorem dX8_either_39 : decode cX8_either 39 = .ok (.iconst 1, 1) := by decide +kernel
theorem dX8_either_40 : decode cX8_either 40 = .ok (.goto 4, 3) := by decide +kernel
theorem dX8_either_43 : decode cX8_either 43 = .ok (.iconst 0, 1) := by decide +kernel
theorem dX8_either_44 : decode cX8_either 44 = .ok (.istore_n 1, 1) := by decide +kernel
theorem dX8_either_45 : decode cX8_either 45 = .ok (.goto (-40), 3) := by decide +kernel
theorem dX8_either_48 : decode cX8_either 48 = .ok (.iload_n 1, 1) := by decide +kernel
theorem dX8_either_49 : decode cX8_either 49 = .ok (.ireturn, 1) := by decide +kernel
theorem dX8_part_0 : decode cX8_part 0 = .ok (.iload_n 1, 1) := by decide +kernel
theorem dX8_part_1 : decode cX8_part 1 = .ok (.ifCond .ne 7, 3) := by decide +kernel
theorem dX8_part_4 : decode cX8_part 4 = .ok (.aload_n 0, 1) := by decide +kernel
theorem dX8_part_5 : decode cX8_part 5 = .ok (.invokevirtual 184, 3) := by decide +kernel
theorem dX8_part_8 : decode cX8_part 8 = .ok (.aload_n 0, 1) := by decide +kernel
theorem dX8_part_9 : decode cX8_part 9 = .ok (.getfield 171, 3) := by decide +kernel
theorem dX8_part_12 : decode cX8_part 12 = .ok (.ifCond .ne 7, 3) := by decide +kernel
theorem dX8_part_15 : decode cX8_part 15 = .ok (.aload_n 0, 1) := by decide +kernel
theorem dX8_part_16 : decode cX8_part 16 = .ok (.invokevirtual 187, 3) := by decide +kernel
theorem dX8_part_19 : decode cX8_part 19 = .ok (.aload_n 0, 1) := by decide +kernel
theorem dX8_part_20 : decode cX8_part 20 = .ok (.getfield 171, 3) := by decide +kernel
theorem dX8_part_23 : decode cX8_part 23 = .ok (.ifCond .eq 7, 3) := by decide +kernel
theorem dX8_part_26 : decode cX8_part 26 = .ok (.iconst 0, 1) := by decide +kernel
theorem dX8_part_27 : decode cX8_part 27 = .ok (.goto 7, 3) := by decide +kernel
theorem dX8_part_30 : decode cX8_part 30 = .ok (.aload_n 0, 1) := by decide +kernel
theorem dX8_part_31 : decode cX8_part 31 = .ok (.invokevirtual 223, 3) := by decide +kernel
theorem dX8_part_34 : decode cX8_part 34 = .ok (.istore_n 2, 1) := by decide +kernel
theorem dX8_part_35 : decode cX8_part 35 = .ok (.aload_n 0, 1) := by decide +kernel
theorem dX8_part_36 : decode cX8_part 36 = .ok (.bipush 59, 2) := by decide +kernel
theorem dX8_part_38 : decode cX8_part 38 = .ok (.invokevirtual 212, 3) := by decide +kernel
theorem dX8_part_41 : decode cX8_part 41 = .ok (.ifCond .ne 7, 3) := by decide +kernel
theorem dX8_part_44 : decode cX8_part 44 = .ok (.aload_n 0, 1) := by decide +kernel
theorem dX8_part_45 : decode cX8_part 45 = .ok (.invokevirtual 184, 3) := by decide +kernel
theorem dX8_part_48 : decode cX8_part 48 = .ok (.aload_n 0, 1) := by decide +kernel
theorem dX8_part_49 : decode cX8_part 49 = .ok (.getfield 171, 3) := by decide +kernel
theorem dX8_part_52 : decode cX8_part 52 = .ok (.ifCond .ne 7, 3) := by decide +kernel
theorem dX8_part_55 : decode cX8_part 55 = .ok (.aload_n 0, 1) := by decide +kernel
theorem dX8_part_56 : decode cX8_part 56 = .ok (.invokevirtual 187, 3) := by decide +kernel
theorem dX8_part_59 : decode cX8_part 59 = .ok (.iload_n 2, 1) := by decide +kernel
theorem dX8_part_60 : decode cX8_part 60 = .ok (.ireturn, 1) := by decide +kernel
theorem dX8_read_0 : decode cX8_read 0 = .ok (.aload_n 0, 1) := by decide +kernel
theorem dX8_read_1 : decode cX8_read 1 = .ok (.sipush 160, 3) := by decide +kernel
theorem dX8_read_4 : decode cX8_read 4 = .ok (.iload_n 1, 1) := by decide +kernel
theorem dX8_read_5 : decode cX8_read 5 = .ok (.imul, 1) := by decide +kernel
theorem dX8_read_6 : decode cX8_read 6 = .ok (.putfield 144, 3) := by decide +kernel
theorem dX8_read_9 : decode cX8_read 9 = .ok (.aload_n 0, 1) := by decide +kernel
theorem dX8_read_10 : decode cX8_read 10 = .ok (.aload_n 0, 1) := by decide +kernel
theorem dX8_read_11 : decode cX8_read 11 = .ok (.getfield 17, 3) := by decide +kernel
theorem dX8_read_14 : decode cX8_read 14 = .ok (.iload_n 1, 1) := by decide +kernel
theorem dX8_read_15 : decode cX8_read 15 = .ok (.iaload, 1) := by decide +kernel
theorem dX8_read_16 : decode cX8_read 16 = .ok (.putfield 141, 3) := by decide +kernel
theorem dX8_read_19 : decode cX8_read 19 = .ok (.aload_n 0, 1) := by decide +kernel
theorem dX8_read_20 : decode cX8_read 20 = .ok (.iconst 0, 1) := by decide +kernel
theorem dX8_read_21 : decode cX8_read 21 = .ok (.putfield 147, 3) := by decide +kernel
theorem dX8_read_24 : decode cX8_read 24 = .ok (.aload_n 0, 1) := by decide +kernel
theorem dX8_read_25 : decode cX8_read 25 = .ok (.iconst 0, 1) := by decide +kernel
theorem dX8_read_26 : decode cX8_read 26 = .ok (.putfield 181, 3) := by decide +kernel
theorem dX8_read_29 : decode cX8_read 29 = .ok (.aload_n 0, 1) := by decide +kernel
theorem dX8_read_30 : decode cX8_read 30 = .ok (.iconst 0, 1) := by decide +kernel
theorem dX8_read_31 : decode cX8_read 31 = .ok (.putfield 171, 3) := by decide +kernel
theorem dX8_read_34 : decode cX8_read 34 = .ok (.aload_n 0, 1) := by decide +kernel
theorem dX8_read_35 : decode cX8_read 35 = .ok (.invokevirtual 187, 3) := by decide +kernel
theorem dX8_read_38 : decode cX8_read 38 = .ok (.aload_n 0, 1) := by decide +kernel
theorem dX8_read_39 : decode cX8_read 39 = .ok (.aload_n 0, 1) := by decide +kernel
theorem dX8_read_40 : decode cX8_read 40 = .ok (.bipush 102, 2) := by decide +kernel
theorem dX8_read_42 : decode cX8_read 42 = .ok (.bipush 111, 2) := by decide +kernel
theorem dX8_read_44 : decode cX8_read 44 = .ok (.bipush 114, 2) := by decide +kernel
theorem dX8_read_46 : decode cX8_read 46 = .ok (.bipush 103, 2) := by decide +kernel
theorem dX8_read_48 : decode cX8_read 48 = .ok (.bipush 105, 2) := by decide +kernel
theorem dX8_read_50 : decode cX8_read 50 = .ok (.bipush 118, 2) := by decide +kernel
theorem dX8_read_52 : decode cX8_read 52 = .ok (.bipush 101, 2) := by decide +kernel
theorem dX8_read_54 : decode cX8_read 54 = .ok (.bipush 115, 2) := by decide +kernel
theorem dX8_read_56 : decode cX8_read 56 = .ok (.invokevirtual 190, 3) := by decide +kernel
theorem dX8_read_59 : decode cX8_read 59 = .ok (.invokevirtual 245, 3) := by decide +kernel
theorem dX8_read_62 : decode cX8_read 62 = .ok (.istore_n 3, 1) := by decide +kernel
theorem dX8_read_63 : decode cX8_read 63 = .ok (.aload_n 0, 1) := by decide +kernel
theorem dX8_read_64 : decode cX8_read 64 = .ok (.getfield 171, 3) := by decide +kernel
theorem dX8_read_67 : decode cX8_read 67 = .ok (.ifCond .eq 7, 3) := by decide +kernel
theorem dX8_read_70 : decode cX8_read 70 = .ok (.iconst 0, 1) := by decide +kernel
theorem dX8_read_71 : decode cX8_read 71 = .ok (.goto 24, 3) := by decide +kernel
theorem dX8_read_74 : decode cX8_read 74 = .ok (.aload_n 0, 1) := by decide +kernel
theorem dX8_read_75 : decode cX8_read 75 = .ok (.aload_n 0, 1) := by decide +kernel
theorem dX8_read_76 : decode cX8_read 76 = .ok (.bipush 108, 2) := by decide +kernel
theorem dX8_read_78 : decode cX8_read 78 = .ok (.bipush 101, 2) := by decide +kernel
theorem dX8_read_80 : decode cX8_read 80 = .ok (.bipush 110, 2) := by decide +kernel
theorem dX8_read_82 : decode cX8_read 82 = .ok (.bipush 100, 2) := by decide +kernel
theorem dX8_read_84 : decode cX8_read 84 = .ok (.bipush 115, 2) := by decide +kernel
theorem dX8_read_86 : decode cX8_read 86 = .ok (.iconst 0, 1) := by decide +kernel
theorem dX8_read_87 : decode cX8_read 87 = .ok (.iconst 0, 1) := by decide +kernel
theorem dX8_read_88 : decode cX8_read 88 = .ok (.iconst 0, 1) := by decide +kernel
theorem dX8_read_89 : decode cX8_read 89 = .ok (.invokevirtual 190, 3) := by decide +kernel
theorem dX8_read_92 : decode cX8_read 92 = .ok (.invokevirtual 245, 3) := by decide +kernel
theorem dX8_read_95 : decode cX8_read 95 = .ok (.istore 4, 2) := by decide +kernel
theorem dX8_read_97 : decode cX8_read 97 = .ok (.aload_n 0, 1) := by decide +kernel
theorem dX8_read_98 : decode cX8_read 98 = .ok (.getfield 171, 3) := by decide +kernel
theorem dX8_read_101 : decode cX8_read 101 = .ok (.ifCond .eq 7, 3) := by decide +kernel
theorem dX8_read_104 : decode cX8_read 104 = .ok (.iconst 0, 1) := by decide +kernel
theorem dX8_read_105 : decode cX8_read 105 = .ok (.goto 23, 3) := by decide +kernel
theorem dX8_read_108 : decode cX8_read 108 = .ok (.aload_n 0, 1) := by decide +kernel
theorem dX8_read_109 : decode cX8_read 109 = .ok (.aload_n 0, 1) := by decide +kernel
theorem dX8_read_110 : decode cX8_read 110 = .ok (.bipush 106, 2) := by decide +kernel
theorem dX8_read_112 : decode cX8_read 112 = .ok (.bipush 111, 2) := by decide +kernel
theorem dX8_read_114 : decode cX8_read 114 = .ok (.bipush 121, 2) := by decide +kernel
theorem dX8_read_116 : decode cX8_read 116 = .ok (.bipush 115, 2) := by decide +kernel
theorem dX8_read_118 : decode cX8_read 118 = .ok (.iconst 0, 1) := by decide +kernel
theorem dX8_read_119 : decode cX8_read 119 = .ok (.iconst 0, 1) := by decide +kernel
theorem dX8_read_120 : decode cX8_read 120 = .ok (.iconst 0, 1) := by decide +kernel
theorem dX8_read_121 : decode cX8_read 121 = .ok (.iconst 0, 1) := by decide +kernel
theorem dX8_read_122 : decode cX8_read 122 = .ok (.invokevirtual 190, 3) := by decide +kernel
theorem dX8_read_125 : decode cX8_read 125 = .ok (.invokevirtual 245, 3) := by decide +kernel
theorem dX8_read_128 : decode cX8_read 128 = .ok (.istore 5, 2) := by decide +kernel
theorem dX8_read_130 : decode cX8_read 130 = .ok (.aload_n 0, 1) := by decide +kernel
theorem dX8_read_131 : decode cX8_read 131 = .ok (.getfield 171, 3) := by decide +kernel
theorem dX8_read_134 : decode cX8_read 134 = .ok (.ifCond .ne 14, 3) := by decide +kernel
theorem dX8_read_137 : decode cX8_read 137 = .ok (.aload_n 0, 1) := by decide +kernel
theorem dX8_read_138 : decode cX8_read 138 = .ok (.getfield 156, 3) := by decide +kernel
theorem dX8_read_141 : decode cX8_read 141 = .ok (.ifCond .eq 7, 3) := by decide +kernel
theorem dX8_read_144 : decode cX8_read 144 = .ok (.aload_n 0, 1) := by decide +kernel
theorem dX8_read_145 : decode cX8_read 145 = .ok (.invokevirtual 184, 3) := by decide +kernel
theorem dX8_read_148 : decode cX8_read 148 = .ok (.iload_n 2, 1) := by decide +kernel
theorem dX8_read_149 : decode cX8_read 149 = .ok (.ifCond .ne 7, 3) := by decide +kernel
theorem dX8_read_152 : decode cX8_read 152 = .ok (.iload_n 3, 1) := by decide +kernel
theorem dX8_read_153 : decode cX8_read 153 = .ok (.goto 15, 3) := by decide +kernel
theorem dX8_read_156 : decode cX8_read 156 = .ok (.iload_n 2, 1) := by decide +kernel
theorem dX8_read_157 : decode cX8_read 157 = .ok (.iconst 1, 1) := by decide +kernel
theorem dX8_read_158 : decode cX8_read 158 = .ok (.if_icmp .ne 8, 3) := by decide +kernel
theorem dX8_read_161 : decode cX8_read 161 = .ok (.iload 4, 2) := by decide +kernel
theorem dX8_read_163 : decode cX8_read 163 = .ok (.goto 5, 3) := by decide +kernel
theorem dX8_read_166 : decode cX8_read 166 = .ok (.iload 5, 2) := by decide +kernel
theorem dX8_read_168 : decode cX8_read 168 = .ok (.ireturn, 1) := by decide +kernel
theorem dX8_text_0 : decode cX8_text 0 = .ok (.aload_n 0, 1) := by decide +kernel
theorem dX8_text_1 : decode cX8_text 1 = .ok (.getfield 79, 3) := by decide +kernel
theorem dX8_text_4 : decode cX8_text 4 = .ok (.bipush 6, 2) := by decide +kernel
theorem dX8_text_6 : decode cX8_text 6 = .ok (.if_icmp .ne 6, 3) := by decide +kernel
theorem dX8_text_9 : decode cX8_text 9 = .ok (.bipush (-4), 2) := by decide +kernel
theorem dX8_text_11 : decode cX8_text 11 = .ok (.ireturn, 1) := by decide +kernel
theorem dX8_text_12 : decode cX8_text 12 = .ok (.iconst 0, 1) := by decide +kernel
theorem dX8_text_13 : decode cX8_text 13 = .ok (.istore_n 1, 1) := by decide +kernel
theorem dX8_text_14 : decode cX8_text 14 = .ok (.iload_n 1, 1) := by decide +kernel
theorem dX8_text_15 : decode cX8_text 15 = .ok (.aload_n 0, 1) := by decide +kernel
theorem dX8_text_16 : decode cX8_text 16 = .ok (.getfield 138, 3) := by decide +kernel
theorem dX8_text_19 : decode cX8_text 19 = .ok (.if_icmp .ge 30, 3) := by decide +kernel
theorem dX8_text_22 : decode cX8_text 22 = .ok (.aload_n 0, 1) := by decide +kernel
theorem dX8_text_23 : decode cX8_text 23 = .ok (.getfield 13, 3) := by decide +kernel
theorem dX8_text_26 : decode cX8_text 26 = .ok (.sipush 160, 3) := by decide +kernel
theorem dX8_text_29 : decode cX8_text 29 = .ok (.aload_n 0, 1) := by decide +kernel
theorem dX8_text_30 : decode cX8_text 30 = .ok (.getfield 79, 3) := by decide +kernel
theorem dX8_text_33 : decode cX8_text 33 = .ok (.imul, 1) := by decide +kernel
theorem dX8_text_34 : decode cX8_text 34 = .ok (.iload_n 1, 1) := by decide +kernel
theorem dX8_text_35 : decode cX8_text 35 = .ok (.iadd, 1) := by decide +kernel
theorem dX8_text_36 : decode cX8_text 36 = .ok (.aload_n 0, 1) := by decide +kernel
theorem dX8_text_37 : decode cX8_text 37 = .ok (.getfield 20, 3) := by decide +kernel
theorem dX8_text_40 : decode cX8_text 40 = .ok (.iload_n 1, 1) := by decide +kernel
theorem dX8_text_41 : decode cX8_text 41 = .ok (.iaload, 1) := by decide +kernel
theorem dX8_text_42 : decode cX8_text 42 = .ok (.iastore, 1) := by decide +kernel
theorem dX8_text_43 : decode cX8_text 43 = .ok (.iinc 1 1, 3) := by decide +kernel
theorem dX8_text_46 : decode cX8_text 46 = .ok (.goto (-32), 3) := by decide +kernel
theorem dX8_text_49 : decode cX8_text 49 = .ok (.aload_n 0, 1) := by decide +kernel
theorem dX8_text_50 : decode cX8_text 50 = .ok (.getfield 17, 3) := by decide +kernel
theorem dX8_text_53 : decode cX8_text 53 = .ok (.aload_n 0, 1) := by decide +kernel
theorem dX8_text_54 : decode cX8_text 54 = .ok (.getfield 79, 3) := by decide +kernel
theorem dX8_text_57 : decode cX8_text 57 = .ok (.aload_n 0, 1) := by decide +kernel
theorem dX8_text_58 : decode cX8_text 58 = .ok (.getfield 138, 3) := by decide +kernel
theorem dX8_text_61 : decode cX8_text 61 = .ok (.iastore, 1) := by decide +kernel
theorem dX8_text_62 : decode cX8_text 62 = .ok (.aload_n 0, 1) := by decide +kernel
theorem dX8_text_63 : decode cX8_text 63 = .ok (.iconst 0, 1) := by decide +kernel
theorem dX8_text_64 : decode cX8_text 64 = .ok (.putfield 138, 3) := by decide +kernel
theorem dX8_text_67 : decode cX8_text 67 = .ok (.aload_n 0, 1) := by decide +kernel
theorem dX8_text_68 : decode cX8_text 68 = .ok (.aload_n 0, 1) := by decide +kernel
theorem dX8_text_69 : decode cX8_text 69 = .ok (.getfield 79, 3) := by decide +kernel
theorem dX8_text_72 : decode cX8_text 72 = .ok (.iconst 0, 1) := by decide +kernel
theorem dX8_text_73 : decode cX8_text 73 = .ok (.invokevirtual 249, 3) := by decide +kernel
theorem dX8_text_76 : decode cX8_text 76 = .ok (.istore_n 1, 1) := by decide +kernel
theorem dX8_text_77 : decode cX8_text 77 = .ok (.aload_n 0, 1) := by decide +kernel
theorem dX8_text_78 : decode cX8_text 78 = .ok (.getfield 171, 3) := by decide +kernel
theorem dX8_text_81 : decode cX8_text 81 = .ok (.ifCond .eq 11, 3) := by decide +kernel
theorem dX8_text_84 : decode cX8_text 84 = .ok (.bipush (-100), 2) := by decide +kernel
theorem dX8_text_86 : decode cX8_text 86 = .ok (.aload_n 0, 1) := by decide +kernel
theorem dX8_text_87 : decode cX8_text 87 = .ok (.getfield 175, 3) := by decide +kernel
theorem dX8_text_90 : decode cX8_text 90 = .ok (.isub, 1) := by decide +kernel
theorem dX8_text_91 : decode cX8_text 91 = .ok (.ireturn, 1) := by decide +kernel
theorem dX8_text_92 : decode cX8_text 92 = .ok (.aload_n 0, 1) := by decide +kernel
theorem dX8_text_93 : decode cX8_text 93 = .ok (.dup, 1) := by decide +kernel
theorem dX8_text_94 : decode cX8_text 94 = .ok (.getfield 79, 3) := by decide +kernel
theorem dX8_text_97 : decode cX8_text 97 = .ok (.iconst 1, 1) := by decide +kernel
theorem dX8_text_98 : decode cX8_text 98 = .ok (.iadd, 1) := by decide +kernel
theorem dX8_text_99 : decode cX8_text 99 = .ok (.putfield 79, 3) := by decide +kernel
theorem dX8_text_102 : decode cX8_text 102 = .ok (.aload_n 0, 1) := by decide +kernel
theorem dX8_text_103 : decode cX8_text 103 = .ok (.getfield 79, 3) := by decide +kernel
theorem dX8_text_106 : decode cX8_text 106 = .ok (.iconst 1, 1) := by decide +kernel
theorem dX8_text_107 : decode cX8_text 107 = .ok (.isub, 1) := by decide +kernel
theorem dX8_text_108 : decode cX8_text 108 = .ok (.ireturn, 1) := by decide +kernel
theorem dX8_force_0 : decode cX8_force 0 = .ok (.iload_n 1, 1) := by decide +kernel
theorem dX8_force_1 : decode cX8_force 1 = .ok (.i2l, 1) := by decide +kernel
theorem dX8_force_2 : decode cX8_force 2 = .ok (.lconst 0, 1) := by decide +kernel
theorem dX8_force_3 : decode cX8_force 3 = .ok (.aload_n 0, 1) := by decide +kernel
theorem dX8_force_4 : decode cX8_force 4 = .ok (.getfield 79, 3) := by decide +kernel
theorem dX8_force_7 : decode cX8_force 7 = .ok (.iconst 1, 1) := by decide +kernel
theorem dX8_force_8 : decode cX8_force 8 = .ok (.isub, 1) := by decide +kernel
theorem dX8_force_9 : decode cX8_force 9 = .ok (.i2l, 1) := by decide +kernel
theorem dX8_force_10 : decode cX8_force 10 = .ok (.invokestatic 85, 3) := by decide +kernel
theorem dX8_force_13 : decode cX8_force 13 = .ok (.ifCond .ne 6, 3) := by decide +kernel
theorem dX8_force_16 : decode cX8_force 16 = .ok (.bipush (-2), 2) := by decide +kernel
theorem dX8_force_18 : decode cX8_force 18 = .ok (.ireturn, 1) := by decide +kernel
theorem dX8_force_19 : decode cX8_force 19 = .ok (.aload_n 0, 1) := by decide +kernel
theorem dX8_force_20 : decode cX8_force 20 = .ok (.getfield 252, 3) := by decide +kernel
theorem dX8_force_23 : decode cX8_force 23 = .ok (.istore_n 2, 1) := by decide +kernel
theorem dX8_force_24 : decode cX8_force 24 = .ok (.aload_n 0, 1) := by decide +kernel
theorem dX8_force_25 : decode cX8_force 25 = .ok (.iload_n 1, 1) := by decide +kernel
theorem dX8_force_26 : decode cX8_force 26 = .ok (.putfield 252, 3) := by decide +kernel
theorem dX8_force_29 : decode cX8_force 29 = .ok (.iload_n 2, 1) := by decide +kernel
theorem dX8_force_30 : decode cX8_force 30 = .ok (.ireturn, 1) := by decide +kernel
theorem dX8_asks_0 : decode cX8_asks 0 = .ok (.aload_n 0, 1) := by decide +kernel
theorem dX8_asks_1 : decode cX8_asks 1 = .ok (.getfield 41, 3) := by decide +kernel
theorem dX8_asks_4 : decode cX8_asks 4 = .ok (.iload_n 2, 1) := by decide +kernel
theorem dX8_asks_5 : decode cX8_asks 5 = .ok (.iaload, 1) := by decide +kernel
theorem dX8_asks_6 : decode cX8_asks 6 = .ok (.istore 4, 2) := by decide +kernel
theorem dX8_asks_8 : decode cX8_asks 8 = .ok (.aload_n 0, 1) := by decide +kernel
theorem dX8_asks_9 : decode cX8_asks 9 = .ok (.getfield 41, 3) := by decide +kernel
theorem dX8_asks_12 : decode cX8_asks 12 = .ok (.iload_n 3, 1) := by decide +kernel
theorem dX8_asks_13 : decode cX8_asks 13 = .ok (.iaload, 1) := by decide +kernel
theorem dX8_asks_14 : decode cX8_asks 14 = .ok (.istore 5, 2) := by decide +kernel
theorem dX8_asks_16 : decode cX8_asks 16 = .ok (.aload_n 0, 1) := by decide +kernel
theorem dX8_asks_17 : decode cX8_asks 17 = .ok (.aload_n 0, 1) := by decide +kernel
theorem dX8_asks_18 : decode cX8_asks 18 = .ok (.getfield 35, 3) := by decide +kernel
theorem dX8_asks_21 : decode cX8_asks 21 = .ok (.bipush 7, 2) := by decide +kernel
theorem dX8_asks_23 : decode cX8_asks 23 = .ok (.iload 5, 2) := by decide +kernel
theorem dX8_asks_25 : decode cX8_asks 25 = .ok (.imul, 1) := by decide +kernel
theorem dX8_asks_26 : decode cX8_asks 26 = .ok (.iload 4, 2) := by decide +kernel
theorem dX8_asks_28 : decode cX8_asks 28 = .ok (.iadd, 1) := by decide +kernel
theorem dX8_asks_29 : decode cX8_asks 29 = .ok (.iaload, 1) := by decide +kernel
theorem dX8_asks_30 : decode cX8_asks 30 = .ok (.putfield 194, 3) := by decide +kernel
theorem dX8_asks_33 : decode cX8_asks 33 = .ok (.aload_n 0, 1) := by decide +kernel
theorem dX8_asks_34 : decode cX8_asks 34 = .ok (.aload_n 0, 1) := by decide +kernel
theorem dX8_asks_35 : decode cX8_asks 35 = .ok (.getfield 35, 3) := by decide +kernel
theorem dX8_asks_38 : decode cX8_asks 38 = .ok (.bipush 7, 2) := by decide +kernel
theorem dX8_asks_40 : decode cX8_asks 40 = .ok (.iload 4, 2) := by decide +kernel
theorem dX8_asks_42 : decode cX8_asks 42 = .ok (.imul, 1) := by decide +kernel
theorem dX8_asks_43 : decode cX8_asks 43 = .ok (.iload 5, 2) := by decide +kernel
theorem dX8_asks_45 : decode cX8_asks 45 = .ok (.iadd, 1) := by decide +kernel
theorem dX8_asks_46 : decode cX8_asks 46 = .ok (.iaload, 1) := by decide +kernel
theorem dX8_asks_47 : decode cX8_asks 47 = .ok (.putfield 197, 3) := by decide +kernel
theorem dX8_asks_50 : decode cX8_asks 50 = .ok (.aload_n 0, 1) := by decide +kernel
theorem dX8_asks_51 : decode cX8_asks 51 = .ok (.aload_n 0, 1) := by decide +kernel
theorem dX8_asks_52 : decode cX8_asks 52 = .ok (.getfield 29, 3) := by decide +kernel
theorem dX8_asks_55 : decode cX8_asks 55 = .ok (.iload 4, 2) := by decide +kernel
theorem dX8_asks_57 : decode cX8_asks 57 = .ok (.iaload, 1) := by decide +kernel
theorem dX8_asks_58 : decode cX8_asks 58 = .ok (.putfield 200, 3) := by decide +kernel
theorem dX8_asks_61 : decode cX8_asks 61 = .ok (.aload_n 0, 1) := by decide +kernel
theorem dX8_asks_62 : decode cX8_asks 62 = .ok (.aload_n 0, 1) := by decide +kernel
theorem dX8_asks_63 : decode cX8_asks 63 = .ok (.getfield 255, 3) := by decide +kernel
theorem dX8_asks_66 : decode cX8_asks 66 = .ok (.putfield 203, 3) := by decide +kernel
theorem dX8_asks_69 : decode cX8_asks 69 = .ok (.aload_n 0, 1) := by decide +kernel
theorem dX8_asks_70 : decode cX8_asks 70 = .ok (.iload_n 2, 1) := by decide +kernel
theorem dX8_asks_71 : decode cX8_asks 71 = .ok (.putfield 206, 3) := by decide +kernel
theorem dX8_asks_74 : decode cX8_asks 74 = .ok (.aload_n 0, 1) := by decide +kernel
theorem dX8_asks_75 : decode cX8_asks 75 = .ok (.aload_n 0, 1) := by decide +kernel
theorem dX8_asks_76 : decode cX8_asks 76 = .ok (.getfield 32, 3) := by decide +kernel
theorem dX8_asks_79 : decode cX8_asks 79 = .ok (.iload 4, 2) := by decide +kernel
theorem dX8_asks_81 : decode cX8_asks 81 = .ok (.iaload, 1) := by decide +kernel
theorem dX8_asks_82 : decode cX8_asks 82 = .ok (.iload 5, 2) := by decide +kernel
theorem dX8_asks_84 : decode cX8_asks 84 = .ok (.if_icmp .ne 7, 3) := by decide +kernel
theorem dX8_asks_87 : decode cX8_asks 87 = .ok (.iconst 1, 1) := by decide +kernel
theorem dX8_asks_88 : decode cX8_asks 88 = .ok (.goto 4, 3) := by decide +kernel
theorem dX8_asks_91 : decode cX8_asks 91 = .ok (.iconst 0, 1) := by decide +kernel
theorem dX8_asks_92 : decode cX8_asks 92 = .ok (.putfield 209, 3) := by decide +kernel
theorem dX8_asks_95 : decode cX8_asks 95 = .ok (.aload_n 0, 1) := by decide +kernel
theorem dX8_asks_96 : decode cX8_asks 96 = .ok (.aload_n 0, 1) := by decide +kernel
theorem dX8_asks_97 : decode cX8_asks 97 = .ok (.getfield 252, 3) := by decide +kernel
theorem dX8_asks_100 : decode cX8_asks 100 = .ok (.iload_n 1, 1) := by decide +kernel
theorem dX8_asks_101 : decode cX8_asks 101 = .ok (.invokevirtual 249, 3) := by decide +kernel
theorem dX8_asks_104 : decode cX8_asks 104 = .ok (.iload_n 1, 1) := by decide +kernel
theorem dX8_asks_105 : decode cX8_asks 105 = .ok (.iconst 2, 1) := by decide +kernel
theorem dX8_asks_106 : decode cX8_asks 106 = .ok (.if_icmp .ne 8, 3) := by decide +kernel
theorem dX8_asks_109 : decode cX8_asks 109 = .ok (.bipush (-99), 2) := by decide +kernel
theorem dX8_asks_111 : decode cX8_asks 111 = .ok (.goto 4, 3) := by decide +kernel
theorem dX8_asks_114 : decode cX8_asks 114 = .ok (.iconst 0, 1) := by decide +kernel
theorem dX8_asks_115 : decode cX8_asks 115 = .ok (.bipush 99, 2) := by decide +kernel
theorem dX8_asks_117 : decode cX8_asks 117 = .ok (.invokestatic 258, 3) := by decide +kernel
theorem dX8_asks_120 : decode cX8_asks 120 = .ok (.ireturn, 1) := by decide +kernel
theorem dX8_letsGo_0 : decode cX8_letsGo 0 = .ok (.aload_n 0, 1) := by decide +kernel
theorem dX8_letsGo_1 : decode cX8_letsGo 1 = .ok (.getfield 41, 3) := by decide +kernel
theorem dX8_letsGo_4 : decode cX8_letsGo 4 = .ok (.iload_n 1, 1) := by decide +kernel
theorem dX8_letsGo_5 : decode cX8_letsGo 5 = .ok (.iaload, 1) := by decide +kernel
theorem dX8_letsGo_6 : decode cX8_letsGo 6 = .ok (.istore_n 3, 1) := by decide +kernel
theorem dX8_letsGo_7 : decode cX8_letsGo 7 = .ok (.aload_n 0, 1) := by decide +kernel
theorem dX8_letsGo_8 : decode cX8_letsGo 8 = .ok (.getfield 26, 3) := by decide +kernel
theorem dX8_letsGo_11 : decode cX8_letsGo 11 = .ok (.iload_n 3, 1) := by decide +kernel
theorem dX8_letsGo_12 : decode cX8_letsGo 12 = .ok (.iaload, 1) := by decide +kernel
theorem dX8_letsGo_13 : decode cX8_letsGo 13 = .ok (.istore 4, 2) := by decide +kernel
theorem dX8_letsGo_15 : decode cX8_letsGo 15 = .ok (.aload_n 0, 1) := by decide +kernel
theorem dX8_letsGo_16 : decode cX8_letsGo 16 = .ok (.getfield 35, 3) := by decide +kernel
theorem dX8_letsGo_19 : decode cX8_letsGo 19 = .ok (.bipush 7, 2) := by decide +kernel
theorem dX8_letsGo_21 : decode cX8_letsGo 21 = .ok (.aload_n 0, 1) := by decide +kernel
theorem dX8_letsGo_22 : decode cX8_letsGo 22 = .ok (.getfield 41, 3) := by decide +kernel
theorem dX8_letsGo_25 : decode cX8_letsGo 25 = .ok (.iload_n 2, 1) := by decide +kernel
theorem dX8_letsGo_26 : decode cX8_letsGo 26 = .ok (.iaload, 1) := by decide +kernel
theorem dX8_letsGo_27 : decode cX8_letsGo 27 = .ok (.imul, 1) := by decide +kernel
theorem dX8_letsGo_28 : decode cX8_letsGo 28 = .ok (.iload_n 3, 1) := by decide +kernel
theorem dX8_letsGo_29 : decode cX8_letsGo 29 = .ok (.iadd, 1) := by decide +kernel
theorem dX8_letsGo_30 : decode cX8_letsGo 30 = .ok (.iaload, 1) := by decide +kernel
theorem dX8_letsGo_31 : decode cX8_letsGo 31 = .ok (.istore 5, 2) := by decide +kernel
theorem dX8_letsGo_33 : decode cX8_letsGo 33 = .ok (.aload_n 0, 1) := by decide +kernel
theorem dX8_letsGo_34 : decode cX8_letsGo 34 = .ok (.iconst 0, 1) := by decide +kernel
theorem dX8_letsGo_35 : decode cX8_letsGo 35 = .ok (.iload_n 1, 1) := by decide +kernel
theorem dX8_letsGo_36 : decode cX8_letsGo 36 = .ok (.iload_n 2, 1) := by decide +kernel
theorem dX8_letsGo_37 : decode cX8_letsGo 37 = .ok (.invokevirtual 262, 3) := by decide +kernel
theorem dX8_letsGo_40 : decode cX8_letsGo 40 = .ok (.istore 6, 2) := by decide +kernel
theorem dX8_letsGo_42 : decode cX8_letsGo 42 = .ok (.iload 4, 2) := by decide +kernel
theorem dX8_letsGo_44 : decode cX8_letsGo 44 = .ok (.iconst 1, 1) := by decide +kernel
theorem dX8_letsGo_45 : decode cX8_letsGo 45 = .ok (.if_icmp .ne 10, 3) := by decide +kernel
theorem dX8_letsGo_48 : decode cX8_letsGo 48 = .ok (.iload 6, 2) := by decide +kernel
theorem dX8_letsGo_50 : decode cX8_letsGo 50 = .ok (.iconst 2, 1) := by decide +kernel
theorem dX8_letsGo_51 : decode cX8_letsGo 51 = .ok (.idiv, 1) := by decide +kernel
theorem dX8_letsGo_52 : decode cX8_letsGo 52 = .ok (.goto 73, 3) := by decide +kernel
theorem dX8_letsGo_55 : decode cX8_letsGo 55 = .ok (.iload 4, 2) := by decide +kernel
theorem dX8_letsGo_57 : decode cX8_letsGo 57 = .ok (.iconst 3, 1) := by decide +kernel
theorem dX8_letsGo_58 : decode cX8_letsGo 58 = .ok (.if_icmp .ne 17, 3) := by decide +kernel
theorem dX8_letsGo_61 : decode cX8_letsGo 61 = .ok (.iload 6, 2) := by decide +kernel
theorem dX8_letsGo_63 : decode cX8_letsGo 63 = .ok (.iconst 2, 1) := by decide +kernel
theorem dX8_letsGo_64 : decode cX8_letsGo 64 = .ok (.idiv, 1) := by decide +kernel
theorem dX8_letsGo_65 : decode cX8_letsGo 65 = .ok (.aload_n 0, 1) := by decide +kernel
theorem dX8_letsGo_66 : decode cX8_letsGo 66 = .ok (.getfield 29, 3) := by decide +kernel
theorem dX8_letsGo_69 : decode cX8_letsGo 69 = .ok (.iload_n 3, 1) := by decide +kernel
theorem dX8_letsGo_70 : decode cX8_letsGo 70 = .ok (.iaload, 1) := by decide +kernel
theorem dX8_letsGo_71 : decode cX8_letsGo 71 = .ok (.iadd, 1) := by decide +kernel
theorem dX8_letsGo_72 : decode cX8_letsGo 72 = .ok (.goto 53, 3) := by decide +kernel
theorem dX8_letsGo_75 : decode cX8_letsGo 75 = .ok (.iload 4, 2) := by decide +kernel
theorem dX8_letsGo_77 : decode cX8_letsGo 77 = .ok (.iconst 2, 1) := by decide +kernel
theorem dX8_letsGo_78 : decode cX8_letsGo 78 = .ok (.if_icmp .ne 10, 3) := by decide +kernel
theorem dX8_letsGo_81 : decode cX8_letsGo 81 = .ok (.iconst 2, 1) := by decide +kernel
theorem dX8_letsGo_82 : decode cX8_letsGo 82 = .ok (.iload 6, 2) := by decide +kernel
theorem dX8_letsGo_84 : decode cX8_letsGo 84 = .ok (.imul, 1) := by decide +kernel
theorem dX8_letsGo_85 : decode cX8_letsGo 85 = .ok (.goto 40, 3) := by decide +kernel
theorem dX8_letsGo_88 : decode cX8_letsGo 88 = .ok (.iload 4, 2) := by decide +kernel
theorem dX8_letsGo_90 : decode cX8_letsGo 90 = .ok (.iconst 4, 1) := by decide +kernel
theorem dX8_letsGo_91 : decode cX8_letsGo 91 = .ok (.if_icmp .ne 22, 3) := by decide +kernel
theorem dX8_letsGo_94 : decode cX8_letsGo 94 = .ok (.iload 5, 2) := by decide +kernel
theorem dX8_letsGo_96 : decode cX8_letsGo 96 = .ok (.bipush 100, 2) := by decide +kernel
theorem dX8_letsGo_98 : decode cX8_letsGo 98 = .ok (.if_icmp .ge 8, 3) := by decide +kernel
theorem dX8_letsGo_101 : decode cX8_letsGo 101 = .ok (.iload 5, 2) := by decide +kernel
theorem dX8_letsGo_103 : decode cX8_letsGo 103 = .ok (.goto 22, 3) := by decide +kernel
theorem dX8_letsGo_106 : decode cX8_letsGo 106 = .ok (.iconst 2, 1) := by decide +kernel
theorem dX8_letsGo_107 : decode cX8_letsGo 107 = .ok (.iload 6, 2) := by decide +kernel
theorem dX8_letsGo_109 : decode cX8_letsGo 109 = .ok (.imul, 1) := by decide +kernel
theorem dX8_letsGo_110 : decode cX8_letsGo 110 = .ok (.goto 15, 3) := by decide +kernel
theorem dX8_letsGo_113 : decode cX8_letsGo 113 = .ok (.iload 4, 2) := by decide +kernel
theorem dX8_letsGo_115 : decode cX8_letsGo 115 = .ok (.iconst 5, 1) := by decide +kernel
theorem dX8_letsGo_116 : decode cX8_letsGo 116 = .ok (.if_icmp .ne 7, 3) := by decide +kernel
theorem dX8_letsGo_119 : decode cX8_letsGo 119 = .ok (.iconst 0, 1) := by decide +kernel
theorem dX8_letsGo_120 : decode cX8_letsGo 120 = .ok (.goto 5, 3) := by decide +kernel
theorem dX8_letsGo_123 : decode cX8_letsGo 123 = .ok (.iload 6, 2) := by decide +kernel
theorem dX8_letsGo_125 : decode cX8_letsGo 125 = .ok (.istore 7, 2) := by decide +kernel
theorem dX8_letsGo_127 : decode cX8_letsGo 127 = .ok (.iload 7, 2) := by decide +kernel
theorem dX8_letsGo_129 : decode cX8_letsGo 129 = .ok (.iconst 0, 1) := by decide +kernel
theorem dX8_letsGo_130 : decode cX8_letsGo 130 = .ok (.iload 5, 2) := by decide +kernel
theorem dX8_letsGo_132 : decode cX8_letsGo 132 = .ok (.invokestatic 258, 3) := by decide +kernel
theorem dX8_letsGo_135 : decode cX8_letsGo 135 = .ok (.ireturn, 1) := by decide +kernel
theorem dX8_lendsOf_0 : decode cX8_lendsOf 0 = .ok (.aload_n 0, 1) := by decide +kernel
theorem dX8_lendsOf_1 : decode cX8_lendsOf 1 = .ok (.getfield 41, 3) := by decide +kernel
theorem dX8_lendsOf_4 : decode cX8_lendsOf 4 = .ok (.iload_n 1, 1) := by decide +kernel
theorem dX8_lendsOf_5 : decode cX8_lendsOf 5 = .ok (.iaload, 1) := by decide +kernel
theorem dX8_lendsOf_6 : decode cX8_lendsOf 6 = .ok (.istore_n 3, 1) := by decide +kernel
theorem dX8_lendsOf_7 : decode cX8_lendsOf 7 = .ok (.aload_n 0, 1) := by decide +kernel
theorem dX8_lendsOf_8 : decode cX8_lendsOf 8 = .ok (.getfield 26, 3) := by decide +kernel
theorem dX8_lendsOf_11 : decode cX8_lendsOf 11 = .ok (.iload_n 3, 1) := by decide +kernel
theorem dX8_lendsOf_12 : decode cX8_lendsOf 12 = .ok (.iaload, 1) := by decide +kernel
theorem dX8_lendsOf_13 : decode cX8_lendsOf 13 = .ok (.istore 4, 2) := by decide +kernel
theorem dX8_lendsOf_15 : decode cX8_lendsOf 15 = .ok (.aload_n 0, 1) := by decide +kernel
theorem dX8_lendsOf_16 : decode cX8_lendsOf 16 = .ok (.iconst 1, 1) := by decide +kernel
theorem dX8_lendsOf_17 : decode cX8_lendsOf 17 = .ok (.iload_n 1, 1) := by decide +kernel
theorem dX8_lendsOf_18 : decode cX8_lendsOf 18 = .ok (.iload_n 2, 1) := by decide +kernel
theorem dX8_lendsOf_19 : decode cX8_lendsOf 19 = .ok (.invokevirtual 262, 3) := by decide +kernel
theorem dX8_lendsOf_22 : decode cX8_lendsOf 22 = .ok (.istore 5, 2) := by decide +kernel
theorem dX8_lendsOf_24 : decode cX8_lendsOf 24 = .ok (.iload 4, 2) := by decide +kernel
theorem dX8_lendsOf_26 : decode cX8_lendsOf 26 = .ok (.iconst 1, 1) := by decide +kernel
theorem dX8_lendsOf_27 : decode cX8_lendsOf 27 = .ok (.if_icmp .eq 9, 3) := by decide +kernel
theorem dX8_lendsOf_30 : decode cX8_lendsOf 30 = .ok (.iload 4, 2) := by decide +kernel
theorem dX8_lendsOf_32 : decode cX8_lendsOf 32 = .ok (.iconst 3, 1) := by decide +kernel
theorem dX8_lendsOf_33 : decode cX8_lendsOf 33 = .ok (.if_icmp .ne 7, 3) := by decide +kernel
theorem dX8_lendsOf_36 : decode cX8_lendsOf 36 = .ok (.iconst 0, 1) := by decide +kernel
theorem dX8_lendsOf_37 : decode cX8_lendsOf 37 = .ok (.goto 43, 3) := by decide +kernel
theorem dX8_lendsOf_40 : decode cX8_lendsOf 40 = .ok (.iload 4, 2) := by decide +kernel
theorem dX8_lendsOf_42 : decode cX8_lendsOf 42 = .ok (.iconst 2, 1) := by decide +kernel
theorem dX8_lendsOf_43 : decode cX8_lendsOf 43 = .ok (.if_icmp .ne 15, 3) := by decide +kernel
theorem dX8_lendsOf_46 : decode cX8_lendsOf 46 = .ok (.iload 5, 2) := by decide +kernel
theorem dX8_lendsOf_48 : decode cX8_lendsOf 48 = .ok (.aload_n 0, 1) := by decide +kernel
theorem dX8_lendsOf_49 : decode cX8_lendsOf 49 = .ok (.getfield 29, 3) := by decide +kernel
theorem dX8_lendsOf_52 : decode cX8_lendsOf 52 = .ok (.iload_n 3, 1) := by decide +kernel
theorem dX8_lendsOf_53 : decode cX8_lendsOf 53 = .ok (.iaload, 1) := by decide +kernel
theorem dX8_lendsOf_54 : decode cX8_lendsOf 54 = .ok (.iadd, 1) := by decide +kernel
theorem dX8_lendsOf_55 : decode cX8_lendsOf 55 = .ok (.goto 25, 3) := by decide +kernel
theorem dX8_lendsOf_58 : decode cX8_lendsOf 58 = .ok (.iload 4, 2) := by decide +kernel
theorem dX8_lendsOf_60 : decode cX8_lendsOf 60 = .ok (.iconst 4, 1) := by decide +kernel
theorem dX8_lendsOf_61 : decode cX8_lendsOf 61 = .ok (.if_icmp .ne 17, 3) := by decide +kernel
theorem dX8_lendsOf_64 : decode cX8_lendsOf 64 = .ok (.iload 5, 2) := by decide +kernel
theorem dX8_lendsOf_66 : decode cX8_lendsOf 66 = .ok (.aload_n 0, 1) := by decide +kernel
theorem dX8_lendsOf_67 : decode cX8_lendsOf 67 = .ok (.getfield 29, 3) := by decide +kernel
theorem dX8_lendsOf_70 : decode cX8_lendsOf 70 = .ok (.iload_n 3, 1) := by decide +kernel
theorem dX8_lendsOf_71 : decode cX8_lendsOf 71 = .ok (.iaload, 1) := by decide +kernel
theorem dX8_lendsOf_72 : decode cX8_lendsOf 72 = .ok (.iadd, 1) := by decide +kernel
theorem dX8_lendsOf_73 : decode cX8_lendsOf 73 = .ok (.iconst 2, 1) := by decide +kernel
theorem dX8_lendsOf_74 : decode cX8_lendsOf 74 = .ok (.idiv, 1) := by decide +kernel
theorem dX8_lendsOf_75 : decode cX8_lendsOf 75 = .ok (.goto 5, 3) := by decide +kernel
theorem dX8_lendsOf_78 : decode cX8_lendsOf 78 = .ok (.iload 5, 2) := by decide +kernel
theorem dX8_lendsOf_80 : decode cX8_lendsOf 80 = .ok (.ireturn, 1) := by decide +kernel
theorem dX8_gladOf_0 : decode cX8_gladOf 0 = .ok (.aload_n 0, 1) := by decide +kernel
theorem dX8_gladOf_1 : decode cX8_gladOf 1 = .ok (.getfield 41, 3) := by decide +kernel
theorem dX8_gladOf_4 : decode cX8_gladOf 4 = .ok (.iload_n 1, 1) := by decide +kernel
theorem dX8_gladOf_5 : decode cX8_gladOf 5 = .ok (.iaload, 1) := by decide +kernel
theorem dX8_gladOf_6 : decode cX8_gladOf 6 = .ok (.istore_n 3, 1) := by decide +kernel
theorem dX8_gladOf_7 : decode cX8_gladOf 7 = .ok (.aload_n 0, 1) := by decide +kernel
theorem dX8_gladOf_8 : decode cX8_gladOf 8 = .ok (.getfield 26, 3) := by decide +kernel
theorem dX8_gladOf_11 : decode cX8_gladOf 11 = .ok (.iload_n 3, 1) := by decide +kernel
theorem dX8_gladOf_12 : decode cX8_gladOf 12 = .ok (.iaload, 1) := by decide +kernel
theorem dX8_gladOf_13 : decode cX8_gladOf 13 = .ok (.istore 4, 2) := by decide +kernel
theorem dX8_gladOf_15 : decode cX8_gladOf 15 = .ok (.iload 4, 2) := by decide +kernel
theorem dX8_gladOf_17 : decode cX8_gladOf 17 = .ok (.iconst 5, 1) := by decide +kernel
theorem dX8_gladOf_18 : decode cX8_gladOf 18 = .ok (.if_icmp .ne 5, 3) := by decide +kernel
theorem dX8_gladOf_21 : decode cX8_gladOf 21 = .ok (.iconst 3, 1) := by decide +kernel
theorem dX8_gladOf_22 : decode cX8_gladOf 22 = .ok (.ireturn, 1) := by decide +kernel
theorem dX8_gladOf_23 : decode cX8_gladOf 23 = .ok (.aload_n 0, 1) := by decide +kernel
theorem dX8_gladOf_24 : decode cX8_gladOf 24 = .ok (.getfield 32, 3) := by decide +kernel
theorem dX8_gladOf_27 : decode cX8_gladOf 27 = .ok (.iload_n 3, 1) := by decide +kernel
theorem dX8_gladOf_28 : decode cX8_gladOf 28 = .ok (.iaload, 1) := by decide +kernel
theorem dX8_gladOf_29 : decode cX8_gladOf 29 = .ok (.aload_n 0, 1) := by decide +kernel
theorem dX8_gladOf_30 : decode cX8_gladOf 30 = .ok (.getfield 41, 3) := by decide +kernel
theorem dX8_gladOf_33 : decode cX8_gladOf 33 = .ok (.iload_n 2, 1) := by decide +kernel
theorem dX8_gladOf_34 : decode cX8_gladOf 34 = .ok (.iaload, 1) := by decide +kernel
theorem dX8_gladOf_35 : decode cX8_gladOf 35 = .ok (.if_icmp .ne 7, 3) := by decide +kernel
theorem dX8_gladOf_38 : decode cX8_gladOf 38 = .ok (.iconst 1, 1) := by decide +kernel
theorem dX8_gladOf_39 : decode cX8_gladOf 39 = .ok (.goto 4, 3) := by decide +kernel
theorem dX8_gladOf_42 : decode cX8_gladOf 42 = .ok (.iconst 0, 1) := by decide +kernel
theorem dX8_gladOf_43 : decode cX8_gladOf 43 = .ok (.istore 5, 2) := by decide +kernel
theorem dX8_gladOf_45 : decode cX8_gladOf 45 = .ok (.aload_n 0, 1) := by decide +kernel
theorem dX8_gladOf_46 : decode cX8_gladOf 46 = .ok (.iconst 2, 1) := by decide +kernel
theorem dX8_gladOf_47 : decode cX8_gladOf 47 = .ok (.iload_n 1, 1) := by decide +kernel
theorem dX8_gladOf_48 : decode cX8_gladOf 48 = .ok (.iload_n 2, 1) := by decide +kernel
theorem dX8_gladOf_49 : decode cX8_gladOf 49 = .ok (.invokevirtual 262, 3) := by decide +kernel
theorem dX8_gladOf_52 : decode cX8_gladOf 52 = .ok (.istore 6, 2) := by decide +kernel
theorem dX8_gladOf_54 : decode cX8_gladOf 54 = .ok (.iload 5, 2) := by decide +kernel
theorem dX8_gladOf_56 : decode cX8_gladOf 56 = .ok (.ifCond .eq 11, 3) := by decide +kernel
theorem dX8_gladOf_59 : decode cX8_gladOf 59 = .ok (.iload 6, 2) := by decide +kernel
theorem dX8_gladOf_61 : decode cX8_gladOf 61 = .ok (.bipush 10, 2) := by decide +kernel
theorem dX8_gladOf_63 : decode cX8_gladOf 63 = .ok (.iadd, 1) := by decide +kernel
theorem dX8_gladOf_64 : decode cX8_gladOf 64 = .ok (.goto 5, 3) := by decide +kernel
theorem dX8_gladOf_67 : decode cX8_gladOf 67 = .ok (.iload 6, 2) := by decide +kernel
theorem dX8_gladOf_69 : decode cX8_gladOf 69 = .ok (.istore 7, 2) := by decide +kernel
theorem dX8_gladOf_71 : decode cX8_gladOf 71 = .ok (.iload 4, 2) := by decide +kernel
theorem dX8_gladOf_73 : decode cX8_gladOf 73 = .ok (.iconst 1, 1) := by decide +kernel
theorem dX8_gladOf_74 : decode cX8_gladOf 74 = .ok (.if_icmp .eq 9, 3) := by decide +kernel
theorem dX8_gladOf_77 : decode cX8_gladOf 77 = .ok (.iload 4, 2) := by decide +kernel
theorem dX8_gladOf_79 : decode cX8_gladOf 79 = .ok (.iconst 3, 1) := by decide +kernel
theorem dX8_gladOf_80 : decode cX8_gladOf 80 = .ok (.if_icmp .ne 18, 3) := by decide +kernel
theorem dX8_gladOf_83 : decode cX8_gladOf 83 = .ok (.iload 5, 2) := by decide +kernel
theorem dX8_gladOf_85 : decode cX8_gladOf 85 = .ok (.ifCond .eq 8, 3) := by decide +kernel
theorem dX8_gladOf_88 : decode cX8_gladOf 88 = .ok (.iload 7, 2) := by decide +kernel
theorem dX8_gladOf_90 : decode cX8_gladOf 90 = .ok (.goto 7, 3) := by decide +kernel
theorem dX8_gladOf_93 : decode cX8_gladOf 93 = .ok (.iload 7, 2) := by decide +kernel
theorem dX8_gladOf_95 : decode cX8_gladOf 95 = .ok (.iconst 5, 1) := by decide +kernel
theorem dX8_gladOf_96 : decode cX8_gladOf 96 = .ok (.isub, 1) := by decide +kernel
theorem dX8_gladOf_97 : decode cX8_gladOf 97 = .ok (.ireturn, 1) := by decide +kernel
theorem dX8_gladOf_98 : decode cX8_gladOf 98 = .ok (.iload 4, 2) := by decide +kernel
theorem dX8_gladOf_100 : decode cX8_gladOf 100 = .ok (.iconst 2, 1) := by decide +kernel
theorem dX8_gladOf_101 : decode cX8_gladOf 101 = .ok (.if_icmp .ne 10, 3) := by decide +kernel
theorem dX8_gladOf_104 : decode cX8_gladOf 104 = .ok (.iconst 2, 1) := by decide +kernel
theorem dX8_gladOf_105 : decode cX8_gladOf 105 = .ok (.iload 7, 2) := by decide +kernel
theorem dX8_gladOf_107 : decode cX8_gladOf 107 = .ok (.imul, 1) := by decide +kernel
theorem dX8_gladOf_108 : decode cX8_gladOf 108 = .ok (.goto 25, 3) := by decide +kernel
theorem dX8_gladOf_111 : decode cX8_gladOf 111 = .ok (.iload 4, 2) := by decide +kernel
theorem dX8_gladOf_113 : decode cX8_gladOf 113 = .ok (.iconst 4, 1) := by decide +kernel
theorem dX8_gladOf_114 : decode cX8_gladOf 114 = .ok (.if_icmp .ne 17, 3) := by decide +kernel
theorem dX8_gladOf_117 : decode cX8_gladOf 117 = .ok (.iconst 2, 1) := by decide +kernel
theorem dX8_gladOf_118 : decode cX8_gladOf 118 = .ok (.iload 7, 2) := by decide +kernel
theorem dX8_gladOf_120 : decode cX8_gladOf 120 = .ok (.imul, 1) := by decide +kernel
theorem dX8_gladOf_121 : decode cX8_gladOf 121 = .ok (.aload_n 0, 1) := by decide +kernel
theorem dX8_gladOf_122 : decode cX8_gladOf 122 = .ok (.getfield 29, 3) := by decide +kernel
theorem dX8_gladOf_125 : decode cX8_gladOf 125 = .ok (.iload_n 3, 1) := by decide +kernel
theorem dX8_gladOf_126 : decode cX8_gladOf 126 = .ok (.iaload, 1) := by decide +kernel
theorem dX8_gladOf_127 : decode cX8_gladOf 127 = .ok (.iadd, 1) := by decide +kernel
theorem dX8_gladOf_128 : decode cX8_gladOf 128 = .ok (.goto 5, 3) := by decide +kernel
theorem dX8_gladOf_131 : decode cX8_gladOf 131 = .ok (.iload 7, 2) := by decide +kernel
theorem dX8_gladOf_133 : decode cX8_gladOf 133 = .ok (.ireturn, 1) := by decide +kernel
theorem dX8_beside_0 : decode cX8_beside 0 = .ok (.iload_n 1, 1) := by decide +kernel
theorem dX8_beside_1 : decode cX8_beside 1 = .ok (.iload_n 2, 1) := by decide +kernel
theorem dX8_beside_2 : decode cX8_beside 2 = .ok (.if_icmp .le 9, 3) := by decide +kernel
theorem dX8_beside_5 : decode cX8_beside 5 = .ok (.iload_n 1, 1) := by decide +kernel
theorem dX8_beside_6 : decode cX8_beside 6 = .ok (.iload_n 2, 1) := by decide +kernel
theorem dX8_beside_7 : decode cX8_beside 7 = .ok (.isub, 1) := by decide +kernel
theorem dX8_beside_8 : decode cX8_beside 8 = .ok (.goto 6, 3) := by decide +kernel
theorem dX8_beside_11 : decode cX8_beside 11 = .ok (.iload_n 2, 1) := by decide +kernel
theorem dX8_beside_12 : decode cX8_beside 12 = .ok (.iload_n 1, 1) := by decide +kernel
theorem dX8_beside_13 : decode cX8_beside 13 = .ok (.isub, 1) := by decide +kernel
theorem dX8_beside_14 : decode cX8_beside 14 = .ok (.istore_n 3, 1) := by decide +kernel
theorem dX8_beside_15 : decode cX8_beside 15 = .ok (.iload_n 3, 1) := by decide +kernel
theorem dX8_beside_16 : decode cX8_beside 16 = .ok (.iconst 1, 1) := by decide +kernel
theorem dX8_beside_17 : decode cX8_beside 17 = .ok (.if_icmp .eq 25, 3) := by decide +kernel
theorem dX8_beside_20 : decode cX8_beside 20 = .ok (.aload_n 0, 1) := by decide +kernel
theorem dX8_beside_21 : decode cX8_beside 21 = .ok (.getfield 23, 3) := by decide +kernel
theorem dX8_beside_24 : decode cX8_beside 24 = .ok (.iconst 1, 1) := by decide +kernel
theorem dX8_beside_25 : decode cX8_beside 25 = .ok (.if_icmp .ne 21, 3) := by decide +kernel
theorem dX8_beside_28 : decode cX8_beside 28 = .ok (.iload_n 3, 1) := by decide +kernel
theorem dX8_beside_29 : decode cX8_beside 29 = .ok (.aload_n 0, 1) := by decide +kernel
theorem dX8_beside_30 : decode cX8_beside 30 = .ok (.getfield 255, 3) := by decide +kernel
theorem dX8_beside_33 : decode cX8_beside 33 = .ok (.iconst 1, 1) := by decide +kernel
theorem dX8_beside_34 : decode cX8_beside 34 = .ok (.isub, 1) := by decide +kernel
theorem dX8_beside_35 : decode cX8_beside 35 = .ok (.if_icmp .ne 11, 3) := by decide +kernel
theorem dX8_beside_38 : decode cX8_beside 38 = .ok (.iload_n 3, 1) := by decide +kernel
theorem dX8_beside_39 : decode cX8_beside 39 = .ok (.ifCond .le 7, 3) := by decide +kernel
theorem dX8_beside_42 : decode cX8_beside 42 = .ok (.iconst 1, 1) := by decide +kernel
theorem dX8_beside_43 : decode cX8_beside 43 = .ok (.goto 4, 3) := by decide +kernel
theorem dX8_beside_46 : decode cX8_beside 46 = .ok (.iconst 0, 1) := by decide +kernel
theorem dX8_beside_47 : decode cX8_beside 47 = .ok (.ireturn, 1) := by decide +kernel
theorem dX8_seatedSet_0 : decode cX8_seatedSet 0 = .ok (.iconst 0, 1) := by decide +kernel
theorem dX8_seatedSet_1 : decode cX8_seatedSet 1 = .ok (.istore_n 1, 1) := by decide +kernel
theorem dX8_seatedSet_2 : decode cX8_seatedSet 2 = .ok (.iconst 0, 1) := by decide +kernel
theorem dX8_seatedSet_3 : decode cX8_seatedSet 3 = .ok (.istore_n 2, 1) := by decide +kernel
theorem dX8_seatedSet_4 : decode cX8_seatedSet 4 = .ok (.iload_n 2, 1) := by decide +kernel
theorem dX8_seatedSet_5 : decode cX8_seatedSet 5 = .ok (.aload_n 0, 1) := by decide +kernel
theorem dX8_seatedSet_6 : decode cX8_seatedSet 6 = .ok (.getfield 255, 3) := by decide +kernel
theorem dX8_seatedSet_9 : decode cX8_seatedSet 9 = .ok (.if_icmp .ge 20, 3) := by decide +kernel
theorem dX8_seatedSet_12 : decode cX8_seatedSet 12 = .ok (.iload_n 1, 1) := by decide +kernel
theorem dX8_seatedSet_13 : decode cX8_seatedSet 13 = .ok (.iconst 1, 1) := by decide +kernel
theorem dX8_seatedSet_14 : decode cX8_seatedSet 14 = .ok (.aload_n 0, 1) := by decide +kernel
