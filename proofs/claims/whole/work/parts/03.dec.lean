theorem dX4_tell_42 : decode cX4_tell 42 = .ok (.getfield 17, 3) := by decide +kernel
theorem dX4_tell_45 : decode cX4_tell 45 = .ok (.goto 8, 3) := by decide +kernel
theorem dX4_tell_48 : decode cX4_tell 48 = .ok (.aload_n 0, 1) := by decide +kernel
theorem dX4_tell_49 : decode cX4_tell 49 = .ok (.getfield 7, 3) := by decide +kernel
theorem dX4_tell_52 : decode cX4_tell 52 = .ok (.arraylength, 1) := by decide +kernel
theorem dX4_tell_53 : decode cX4_tell 53 = .ok (.istore 4, 2) := by decide +kernel
theorem dX4_tell_55 : decode cX4_tell 55 = .ok (.iconst 0, 1) := by decide +kernel
theorem dX4_tell_56 : decode cX4_tell 56 = .ok (.istore 5, 2) := by decide +kernel
theorem dX4_tell_58 : decode cX4_tell 58 = .ok (.iload_n 3, 1) := by decide +kernel
theorem dX4_tell_59 : decode cX4_tell 59 = .ok (.istore 6, 2) := by decide +kernel
theorem dX4_tell_61 : decode cX4_tell 61 = .ok (.iload 6, 2) := by decide +kernel
theorem dX4_tell_63 : decode cX4_tell 63 = .ok (.iload 4, 2) := by decide +kernel
theorem dX4_tell_65 : decode cX4_tell 65 = .ok (.if_icmp .ge 164, 3) := by decide +kernel
theorem dX4_tell_68 : decode cX4_tell 68 = .ok (.aload_n 0, 1) := by decide +kernel
theorem dX4_tell_69 : decode cX4_tell 69 = .ok (.getfield 7, 3) := by decide +kernel
theorem dX4_tell_72 : decode cX4_tell 72 = .ok (.iload 6, 2) := by decide +kernel
theorem dX4_tell_74 : decode cX4_tell 74 = .ok (.iaload, 1) := by decide +kernel
theorem dX4_tell_75 : decode cX4_tell 75 = .ok (.istore 7, 2) := by decide +kernel
theorem dX4_tell_77 : decode cX4_tell 77 = .ok (.iload 7, 2) := by decide +kernel
theorem dX4_tell_79 : decode cX4_tell 79 = .ok (.sipush 20000, 3) := by decide +kernel
theorem dX4_tell_82 : decode cX4_tell 82 = .ok (.if_icmp .ge 47, 3) := by decide +kernel
theorem dX4_tell_85 : decode cX4_tell 85 = .ok (.iload 5, 2) := by decide +kernel
theorem dX4_tell_87 : decode cX4_tell 87 = .ok (.aload_n 0, 1) := by decide +kernel
theorem dX4_tell_88 : decode cX4_tell 88 = .ok (.getfield 20, 3) := by decide +kernel
theorem dX4_tell_91 : decode cX4_tell 91 = .ok (.arraylength, 1) := by decide +kernel
theorem dX4_tell_92 : decode cX4_tell 92 = .ok (.if_icmp .ge 131, 3) := by decide +kernel
theorem dX4_tell_95 : decode cX4_tell 95 = .ok (.aload_n 0, 1) := by decide +kernel
theorem dX4_tell_96 : decode cX4_tell 96 = .ok (.getfield 20, 3) := by decide +kernel
theorem dX4_tell_99 : decode cX4_tell 99 = .ok (.iload 5, 2) := by decide +kernel
theorem dX4_tell_101 : decode cX4_tell 101 = .ok (.iload 7, 2) := by decide +kernel
theorem dX4_tell_103 : decode cX4_tell 103 = .ok (.sipush 10000, 3) := by decide +kernel
theorem dX4_tell_106 : decode cX4_tell 106 = .ok (.if_icmp .ge 8, 3) := by decide +kernel
theorem dX4_tell_109 : decode cX4_tell 109 = .ok (.iload 7, 2) := by decide +kernel
theorem dX4_tell_111 : decode cX4_tell 111 = .ok (.goto 11, 3) := by decide +kernel
theorem dX4_tell_114 : decode cX4_tell 114 = .ok (.aload_n 2, 1) := by decide +kernel
theorem dX4_tell_115 : decode cX4_tell 115 = .ok (.iload 7, 2) := by decide +kernel
theorem dX4_tell_117 : decode cX4_tell 117 = .ok (.sipush 10000, 3) := by decide +kernel
theorem dX4_tell_120 : decode cX4_tell 120 = .ok (.isub, 1) := by decide +kernel
theorem dX4_tell_121 : decode cX4_tell 121 = .ok (.iaload, 1) := by decide +kernel
theorem dX4_tell_122 : decode cX4_tell 122 = .ok (.iastore, 1) := by decide +kernel
theorem dX4_tell_123 : decode cX4_tell 123 = .ok (.iinc 5 1, 3) := by decide +kernel
theorem dX4_tell_126 : decode cX4_tell 126 = .ok (.goto 97, 3) := by decide +kernel
theorem dX4_tell_129 : decode cX4_tell 129 = .ok (.iload 7, 2) := by decide +kernel
theorem dX4_tell_131 : decode cX4_tell 131 = .ok (.sipush 20004, 3) := by decide +kernel
theorem dX4_tell_134 : decode cX4_tell 134 = .ok (.if_icmp .eq 11, 3) := by decide +kernel
theorem dX4_tell_137 : decode cX4_tell 137 = .ok (.iload 7, 2) := by decide +kernel
theorem dX4_tell_139 : decode cX4_tell 139 = .ok (.sipush 20010, 3) := by decide +kernel
theorem dX4_tell_142 : decode cX4_tell 142 = .ok (.if_icmp .ne 38, 3) := by decide +kernel
theorem dX4_tell_145 : decode cX4_tell 145 = .ok (.iload 5, 2) := by decide +kernel
theorem dX4_tell_147 : decode cX4_tell 147 = .ok (.ifCond .le 76, 3) := by decide +kernel
theorem dX4_tell_150 : decode cX4_tell 150 = .ok (.aload_n 0, 1) := by decide +kernel
theorem dX4_tell_151 : decode cX4_tell 151 = .ok (.getfield 20, 3) := by decide +kernel
theorem dX4_tell_154 : decode cX4_tell 154 = .ok (.iload 5, 2) := by decide +kernel
theorem dX4_tell_156 : decode cX4_tell 156 = .ok (.iconst 1, 1) := by decide +kernel
theorem dX4_tell_157 : decode cX4_tell 157 = .ok (.isub, 1) := by decide +kernel
theorem dX4_tell_158 : decode cX4_tell 158 = .ok (.iload 7, 2) := by decide +kernel
theorem dX4_tell_160 : decode cX4_tell 160 = .ok (.sipush 20000, 3) := by decide +kernel
theorem dX4_tell_163 : decode cX4_tell 163 = .ok (.isub, 1) := by decide +kernel
theorem dX4_tell_164 : decode cX4_tell 164 = .ok (.aload_n 0, 1) := by decide +kernel
theorem dX4_tell_165 : decode cX4_tell 165 = .ok (.getfield 20, 3) := by decide +kernel
theorem dX4_tell_168 : decode cX4_tell 168 = .ok (.iload 5, 2) := by decide +kernel
theorem dX4_tell_170 : decode cX4_tell 170 = .ok (.iconst 1, 1) := by decide +kernel
theorem dX4_tell_171 : decode cX4_tell 171 = .ok (.isub, 1) := by decide +kernel
theorem dX4_tell_172 : decode cX4_tell 172 = .ok (.iaload, 1) := by decide +kernel
theorem dX4_tell_173 : decode cX4_tell 173 = .ok (.invokestatic 25, 3) := by decide +kernel
theorem dX4_tell_176 : decode cX4_tell 176 = .ok (.iastore, 1) := by decide +kernel
theorem dX4_tell_177 : decode cX4_tell 177 = .ok (.goto 46, 3) := by decide +kernel
theorem dX4_tell_180 : decode cX4_tell 180 = .ok (.iload 5, 2) := by decide +kernel
theorem dX4_tell_182 : decode cX4_tell 182 = .ok (.iconst 1, 1) := by decide +kernel
theorem dX4_tell_183 : decode cX4_tell 183 = .ok (.if_icmp .le 40, 3) := by decide +kernel
theorem dX4_tell_186 : decode cX4_tell 186 = .ok (.iinc 5 (-1), 3) := by decide +kernel
theorem dX4_tell_189 : decode cX4_tell 189 = .ok (.aload_n 0, 1) := by decide +kernel
theorem dX4_tell_190 : decode cX4_tell 190 = .ok (.getfield 20, 3) := by decide +kernel
theorem dX4_tell_193 : decode cX4_tell 193 = .ok (.iload 5, 2) := by decide +kernel
theorem dX4_tell_195 : decode cX4_tell 195 = .ok (.iconst 1, 1) := by decide +kernel
theorem dX4_tell_196 : decode cX4_tell 196 = .ok (.isub, 1) := by decide +kernel
theorem dX4_tell_197 : decode cX4_tell 197 = .ok (.iload 7, 2) := by decide +kernel
theorem dX4_tell_199 : decode cX4_tell 199 = .ok (.sipush 20000, 3) := by decide +kernel
theorem dX4_tell_202 : decode cX4_tell 202 = .ok (.isub, 1) := by decide +kernel
theorem dX4_tell_203 : decode cX4_tell 203 = .ok (.aload_n 0, 1) := by decide +kernel
theorem dX4_tell_204 : decode cX4_tell 204 = .ok (.getfield 20, 3) := by decide +kernel
theorem dX4_tell_207 : decode cX4_tell 207 = .ok (.iload 5, 2) := by decide +kernel
theorem dX4_tell_209 : decode cX4_tell 209 = .ok (.iconst 1, 1) := by decide +kernel
theorem dX4_tell_210 : decode cX4_tell 210 = .ok (.isub, 1) := by decide +kernel
theorem dX4_tell_211 : decode cX4_tell 211 = .ok (.iaload, 1) := by decide +kernel
theorem dX4_tell_212 : decode cX4_tell 212 = .ok (.aload_n 0, 1) := by decide +kernel
theorem dX4_tell_213 : decode cX4_tell 213 = .ok (.getfield 20, 3) := by decide +kernel
theorem dX4_tell_216 : decode cX4_tell 216 = .ok (.iload 5, 2) := by decide +kernel
theorem dX4_tell_218 : decode cX4_tell 218 = .ok (.iaload, 1) := by decide +kernel
theorem dX4_tell_219 : decode cX4_tell 219 = .ok (.invokestatic 29, 3) := by decide +kernel
theorem dX4_tell_222 : decode cX4_tell 222 = .ok (.iastore, 1) := by decide +kernel
theorem dX4_tell_223 : decode cX4_tell 223 = .ok (.iinc 6 1, 3) := by decide +kernel
theorem dX4_tell_226 : decode cX4_tell 226 = .ok (.goto (-165), 3) := by decide +kernel
theorem dX4_tell_229 : decode cX4_tell 229 = .ok (.iload 5, 2) := by decide +kernel
theorem dX4_tell_231 : decode cX4_tell 231 = .ok (.ifCond .le 12, 3) := by decide +kernel
theorem dX4_tell_234 : decode cX4_tell 234 = .ok (.aload_n 0, 1) := by decide +kernel
theorem dX4_tell_235 : decode cX4_tell 235 = .ok (.getfield 20, 3) := by decide +kernel
theorem dX4_tell_238 : decode cX4_tell 238 = .ok (.iconst 0, 1) := by decide +kernel
theorem dX4_tell_239 : decode cX4_tell 239 = .ok (.iaload, 1) := by decide +kernel
theorem dX4_tell_240 : decode cX4_tell 240 = .ok (.goto 4, 3) := by decide +kernel
theorem dX4_tell_243 : decode cX4_tell 243 = .ok (.iconst 0, 1) := by decide +kernel
theorem dX4_tell_244 : decode cX4_tell 244 = .ok (.iload_n 1, 1) := by decide +kernel
theorem dX4_tell_245 : decode cX4_tell 245 = .ok (.iconst 2, 1) := by decide +kernel
theorem dX4_tell_246 : decode cX4_tell 246 = .ok (.if_icmp .ne 8, 3) := by decide +kernel
theorem dX4_tell_249 : decode cX4_tell 249 = .ok (.bipush (-99), 2) := by decide +kernel
theorem dX4_tell_251 : decode cX4_tell 251 = .ok (.goto 4, 3) := by decide +kernel
theorem dX4_tell_254 : decode cX4_tell 254 = .ok (.iconst 0, 1) := by decide +kernel
theorem dX4_tell_255 : decode cX4_tell 255 = .ok (.bipush 99, 2) := by decide +kernel
theorem dX4_tell_257 : decode cX4_tell 257 = .ok (.invokestatic 33, 3) := by decide +kernel
theorem dX4_tell_260 : decode cX4_tell 260 = .ok (.ireturn, 1) := by decide +kernel
theorem dX4_turned_0 : decode cX4_turned 0 = .ok (.iload_n 0, 1) := by decide +kernel
theorem dX4_turned_1 : decode cX4_turned 1 = .ok (.iconst 4, 1) := by decide +kernel
theorem dX4_turned_2 : decode cX4_turned 2 = .ok (.if_icmp .ne 6, 3) := by decide +kernel
theorem dX4_turned_5 : decode cX4_turned 5 = .ok (.iload_n 1, 1) := by decide +kernel
theorem dX4_turned_6 : decode cX4_turned 6 = .ok (.ineg, 1) := by decide +kernel
theorem dX4_turned_7 : decode cX4_turned 7 = .ok (.ireturn, 1) := by decide +kernel
theorem dX4_turned_8 : decode cX4_turned 8 = .ok (.iload_n 1, 1) := by decide +kernel
theorem dX4_turned_9 : decode cX4_turned 9 = .ok (.ifCond .ne 7, 3) := by decide +kernel
theorem dX4_turned_12 : decode cX4_turned 12 = .ok (.iconst 1, 1) := by decide +kernel
theorem dX4_turned_13 : decode cX4_turned 13 = .ok (.goto 4, 3) := by decide +kernel
theorem dX4_turned_16 : decode cX4_turned 16 = .ok (.iconst 0, 1) := by decide +kernel
theorem dX4_turned_17 : decode cX4_turned 17 = .ok (.ireturn, 1) := by decide +kernel
theorem dX4_joined_0 : decode cX4_joined 0 = .ok (.iload_n 0, 1) := by decide +kernel
theorem dX4_joined_1 : decode cX4_joined 1 = .ok (.lookupswitch 117 #[(8, 59), (9, 73), (43, 109), (45, 113), (60, 87), (61, 98)], 59) := by decide +kernel
theorem dX4_joined_60 : decode cX4_joined 60 = .ok (.iload_n 1, 1) := by decide +kernel
theorem dX4_joined_61 : decode cX4_joined 61 = .ok (.ifCond .ne 7, 3) := by decide +kernel
theorem dX4_joined_64 : decode cX4_joined 64 = .ok (.iload_n 2, 1) := by decide +kernel
theorem dX4_joined_65 : decode cX4_joined 65 = .ok (.ifCond .eq 7, 3) := by decide +kernel
theorem dX4_joined_68 : decode cX4_joined 68 = .ok (.iconst 1, 1) := by decide +kernel
theorem dX4_joined_69 : decode cX4_joined 69 = .ok (.goto 4, 3) := by decide +kernel
theorem dX4_joined_72 : decode cX4_joined 72 = .ok (.iconst 0, 1) := by decide +kernel
theorem dX4_joined_73 : decode cX4_joined 73 = .ok (.ireturn, 1) := by decide +kernel
theorem dX4_joined_74 : decode cX4_joined 74 = .ok (.iload_n 1, 1) := by decide +kernel
theorem dX4_joined_75 : decode cX4_joined 75 = .ok (.ifCond .eq 11, 3) := by decide +kernel
theorem dX4_joined_78 : decode cX4_joined 78 = .ok (.iload_n 2, 1) := by decide +kernel
theorem dX4_joined_79 : decode cX4_joined 79 = .ok (.ifCond .eq 7, 3) := by decide +kernel
theorem dX4_joined_82 : decode cX4_joined 82 = .ok (.iconst 1, 1) := by decide +kernel
theorem dX4_joined_83 : decode cX4_joined 83 = .ok (.goto 4, 3) := by decide +kernel
theorem dX4_joined_86 : decode cX4_joined 86 = .ok (.iconst 0, 1) := by decide +kernel
theorem dX4_joined_87 : decode cX4_joined 87 = .ok (.ireturn, 1) := by decide +kernel
theorem dX4_joined_88 : decode cX4_joined 88 = .ok (.iload_n 1, 1) := by decide +kernel
theorem dX4_joined_89 : decode cX4_joined 89 = .ok (.iload_n 2, 1) := by decide +kernel
theorem dX4_joined_90 : decode cX4_joined 90 = .ok (.if_icmp .ge 7, 3) := by decide +kernel
theorem dX4_joined_93 : decode cX4_joined 93 = .ok (.iconst 1, 1) := by decide +kernel
theorem dX4_joined_94 : decode cX4_joined 94 = .ok (.goto 4, 3) := by decide +kernel
theorem dX4_joined_97 : decode cX4_joined 97 = .ok (.iconst 0, 1) := by decide +kernel
theorem dX4_joined_98 : decode cX4_joined 98 = .ok (.ireturn, 1) := by decide +kernel
theorem dX4_joined_99 : decode cX4_joined 99 = .ok (.iload_n 1, 1) := by decide +kernel
theorem dX4_joined_100 : decode cX4_joined 100 = .ok (.iload_n 2, 1) := by decide +kernel
theorem dX4_joined_101 : decode cX4_joined 101 = .ok (.if_icmp .ne 7, 3) := by decide +kernel
theorem dX4_joined_104 : decode cX4_joined 104 = .ok (.iconst 1, 1) := by decide +kernel
theorem dX4_joined_105 : decode cX4_joined 105 = .ok (.goto 4, 3) := by decide +kernel
theorem dX4_joined_108 : decode cX4_joined 108 = .ok (.iconst 0, 1) := by decide +kernel
theorem dX4_joined_109 : decode cX4_joined 109 = .ok (.ireturn, 1) := by decide +kernel
theorem dX4_joined_110 : decode cX4_joined 110 = .ok (.iload_n 1, 1) := by decide +kernel
theorem dX4_joined_111 : decode cX4_joined 111 = .ok (.iload_n 2, 1) := by decide +kernel
theorem dX4_joined_112 : decode cX4_joined 112 = .ok (.iadd, 1) := by decide +kernel
theorem dX4_joined_113 : decode cX4_joined 113 = .ok (.ireturn, 1) := by decide +kernel
theorem dX4_joined_114 : decode cX4_joined 114 = .ok (.iload_n 1, 1) := by decide +kernel
theorem dX4_joined_115 : decode cX4_joined 115 = .ok (.iload_n 2, 1) := by decide +kernel
theorem dX4_joined_116 : decode cX4_joined 116 = .ok (.isub, 1) := by decide +kernel
theorem dX4_joined_117 : decode cX4_joined 117 = .ok (.ireturn, 1) := by decide +kernel
theorem dX4_joined_118 : decode cX4_joined 118 = .ok (.iload_n 1, 1) := by decide +kernel
theorem dX4_joined_119 : decode cX4_joined 119 = .ok (.iload_n 2, 1) := by decide +kernel
theorem dX4_joined_120 : decode cX4_joined 120 = .ok (.imul, 1) := by decide +kernel
theorem dX4_joined_121 : decode cX4_joined 121 = .ok (.ireturn, 1) := by decide +kernel
theorem dX5_init_0 : decode cX5_init 0 = .ok (.aload_n 0, 1) := by decide +kernel
theorem dX5_init_1 : decode cX5_init 1 = .ok (.invokespecial 3, 3) := by decide +kernel
theorem dX5_init_4 : decode cX5_init 4 = .ok (.aload_n 0, 1) := by decide +kernel
theorem dX5_init_5 : decode cX5_init 5 = .ok (.bipush 7, 2) := by decide +kernel
theorem dX5_init_7 : decode cX5_init 7 = .ok (.newarray .int, 2) := by decide +kernel
theorem dX5_init_9 : decode cX5_init 9 = .ok (.putfield 9, 3) := by decide +kernel
theorem dX5_init_12 : decode cX5_init 12 = .ok (.aload_n 0, 1) := by decide +kernel
theorem dX5_init_13 : decode cX5_init 13 = .ok (.bipush 7, 2) := by decide +kernel
theorem dX5_init_15 : decode cX5_init 15 = .ok (.newarray .int, 2) := by decide +kernel
theorem dX5_init_17 : decode cX5_init 17 = .ok (.putfield 15, 3) := by decide +kernel
theorem dX5_init_20 : decode cX5_init 20 = .ok (.aload_n 0, 1) := by decide +kernel
theorem dX5_init_21 : decode cX5_init 21 = .ok (.bipush 7, 2) := by decide +kernel
theorem dX5_init_23 : decode cX5_init 23 = .ok (.newarray .int, 2) := by decide +kernel
theorem dX5_init_25 : decode cX5_init 25 = .ok (.putfield 18, 3) := by decide +kernel
theorem dX5_init_28 : decode cX5_init 28 = .ok (.aload_n 0, 1) := by decide +kernel
theorem dX5_init_29 : decode cX5_init 29 = .ok (.sipush 343, 3) := by decide +kernel
theorem dX5_init_32 : decode cX5_init 32 = .ok (.newarray .int, 2) := by decide +kernel
theorem dX5_init_34 : decode cX5_init 34 = .ok (.putfield 21, 3) := by decide +kernel
theorem dX5_init_37 : decode cX5_init 37 = .ok (.aload_n 0, 1) := by decide +kernel
theorem dX5_init_38 : decode cX5_init 38 = .ok (.bipush 9, 2) := by decide +kernel
theorem dX5_init_40 : decode cX5_init 40 = .ok (.newarray .int, 2) := by decide +kernel
theorem dX5_init_42 : decode cX5_init 42 = .ok (.putfield 24, 3) := by decide +kernel
theorem dX5_init_45 : decode cX5_init 45 = .ok (.return_, 1) := by decide +kernel
theorem dX5_invite_0 : decode cX5_invite 0 = .ok (.aload_n 0, 1) := by decide +kernel
theorem dX5_invite_1 : decode cX5_invite 1 = .ok (.iload_n 2, 1) := by decide +kernel
theorem dX5_invite_2 : decode cX5_invite 2 = .ok (.putfield 27, 3) := by decide +kernel
theorem dX5_invite_5 : decode cX5_invite 5 = .ok (.aload_n 0, 1) := by decide +kernel
theorem dX5_invite_6 : decode cX5_invite 6 = .ok (.iload_n 2, 1) := by decide +kernel
theorem dX5_invite_7 : decode cX5_invite 7 = .ok (.invokestatic 31, 3) := by decide +kernel
theorem dX5_invite_10 : decode cX5_invite 10 = .ok (.putfield 37, 3) := by decide +kernel
theorem dX5_invite_13 : decode cX5_invite 13 = .ok (.aload_n 0, 1) := by decide +kernel
theorem dX5_invite_14 : decode cX5_invite 14 = .ok (.aload_n 1, 1) := by decide +kernel
theorem dX5_invite_15 : decode cX5_invite 15 = .ok (.getfield 40, 3) := by decide +kernel
theorem dX5_invite_18 : decode cX5_invite 18 = .ok (.iconst 1, 1) := by decide +kernel
theorem dX5_invite_19 : decode cX5_invite 19 = .ok (.if_icmp .ne 7, 3) := by decide +kernel
theorem dX5_invite_22 : decode cX5_invite 22 = .ok (.iconst 1, 1) := by decide +kernel
theorem dX5_invite_23 : decode cX5_invite 23 = .ok (.goto 4, 3) := by decide +kernel
theorem dX5_invite_26 : decode cX5_invite 26 = .ok (.iconst 0, 1) := by decide +kernel
theorem dX5_invite_27 : decode cX5_invite 27 = .ok (.putfield 45, 3) := by decide +kernel
theorem dX5_invite_30 : decode cX5_invite 30 = .ok (.iconst 0, 1) := by decide +kernel
theorem dX5_invite_31 : decode cX5_invite 31 = .ok (.istore 4, 2) := by decide +kernel
theorem dX5_invite_33 : decode cX5_invite 33 = .ok (.iload 4, 2) := by decide +kernel
theorem dX5_invite_35 : decode cX5_invite 35 = .ok (.bipush 7, 2) := by decide +kernel
theorem dX5_invite_37 : decode cX5_invite 37 = .ok (.if_icmp .ge 54, 3) := by decide +kernel
theorem dX5_invite_40 : decode cX5_invite 40 = .ok (.iload_n 2, 1) := by decide +kernel
theorem dX5_invite_41 : decode cX5_invite 41 = .ok (.iload 4, 2) := by decide +kernel
theorem dX5_invite_43 : decode cX5_invite 43 = .ok (.invokestatic 48, 3) := by decide +kernel
theorem dX5_invite_46 : decode cX5_invite 46 = .ok (.ifCond .eq 13, 3) := by decide +kernel
theorem dX5_invite_49 : decode cX5_invite 49 = .ok (.iload 4, 2) := by decide +kernel
theorem dX5_invite_51 : decode cX5_invite 51 = .ok (.iload_n 3, 1) := by decide +kernel
theorem dX5_invite_52 : decode cX5_invite 52 = .ok (.if_icmp .eq 7, 3) := by decide +kernel
theorem dX5_invite_55 : decode cX5_invite 55 = .ok (.iconst 1, 1) := by decide +kernel
theorem dX5_invite_56 : decode cX5_invite 56 = .ok (.goto 4, 3) := by decide +kernel
theorem dX5_invite_59 : decode cX5_invite 59 = .ok (.iconst 0, 1) := by decide +kernel
theorem dX5_invite_60 : decode cX5_invite 60 = .ok (.istore 5, 2) := by decide +kernel
theorem dX5_invite_62 : decode cX5_invite 62 = .ok (.aload_n 0, 1) := by decide +kernel
theorem dX5_invite_63 : decode cX5_invite 63 = .ok (.getfield 15, 3) := by decide +kernel
theorem dX5_invite_66 : decode cX5_invite 66 = .ok (.iload 4, 2) := by decide +kernel
theorem dX5_invite_68 : decode cX5_invite 68 = .ok (.iload 5, 2) := by decide +kernel
theorem dX5_invite_70 : decode cX5_invite 70 = .ok (.ifCond .eq 13, 3) := by decide +kernel
theorem dX5_invite_73 : decode cX5_invite 73 = .ok (.aload_n 1, 1) := by decide +kernel
theorem dX5_invite_74 : decode cX5_invite 74 = .ok (.iload 4, 2) := by decide +kernel
theorem dX5_invite_76 : decode cX5_invite 76 = .ok (.iload_n 2, 1) := by decide +kernel
theorem dX5_invite_77 : decode cX5_invite 77 = .ok (.invokevirtual 52, 3) := by decide +kernel
theorem dX5_invite_80 : decode cX5_invite 80 = .ok (.goto 4, 3) := by decide +kernel
theorem dX5_invite_83 : decode cX5_invite 83 = .ok (.iconst (-1), 1) := by decide +kernel
theorem dX5_invite_84 : decode cX5_invite 84 = .ok (.iastore, 1) := by decide +kernel
theorem dX5_invite_85 : decode cX5_invite 85 = .ok (.iinc 4 1, 3) := by decide +kernel
theorem dX5_invite_88 : decode cX5_invite 88 = .ok (.goto (-55), 3) := by decide +kernel
theorem dX5_invite_91 : decode cX5_invite 91 = .ok (.return_, 1) := by decide +kernel
theorem dX5_pairs_0 : decode cX5_pairs 0 = .ok (.aload_n 0, 1) := by decide +kernel
theorem dX5_pairs_1 : decode cX5_pairs 1 = .ok (.getfield 45, 3) := by decide +kernel
theorem dX5_pairs_4 : decode cX5_pairs 4 = .ok (.ifCond .eq 18, 3) := by decide +kernel
theorem dX5_pairs_7 : decode cX5_pairs 7 = .ok (.aload_n 0, 1) := by decide +kernel
theorem dX5_pairs_8 : decode cX5_pairs 8 = .ok (.getfield 37, 3) := by decide +kernel
theorem dX5_pairs_11 : decode cX5_pairs 11 = .ok (.iconst 3, 1) := by decide +kernel
theorem dX5_pairs_12 : decode cX5_pairs 12 = .ok (.if_icmp .lt 10, 3) := by decide +kernel
theorem dX5_pairs_15 : decode cX5_pairs 15 = .ok (.aload_n 0, 1) := by decide +kernel
theorem dX5_pairs_16 : decode cX5_pairs 16 = .ok (.getfield 37, 3) := by decide +kernel
theorem dX5_pairs_19 : decode cX5_pairs 19 = .ok (.goto 13, 3) := by decide +kernel
theorem dX5_pairs_22 : decode cX5_pairs 22 = .ok (.iconst 0, 1) := by decide +kernel
theorem dX5_pairs_23 : decode cX5_pairs 23 = .ok (.aload_n 0, 1) := by decide +kernel
theorem dX5_pairs_24 : decode cX5_pairs 24 = .ok (.getfield 37, 3) := by decide +kernel
theorem dX5_pairs_27 : decode cX5_pairs 27 = .ok (.iconst 1, 1) := by decide +kernel
theorem dX5_pairs_28 : decode cX5_pairs 28 = .ok (.isub, 1) := by decide +kernel
theorem dX5_pairs_29 : decode cX5_pairs 29 = .ok (.invokestatic 56, 3) := by decide +kernel
theorem dX5_pairs_32 : decode cX5_pairs 32 = .ok (.ireturn, 1) := by decide +kernel
theorem dX5_seatBehind_0 : decode cX5_seatBehind 0 = .ok (.iload_n 1, 1) := by decide +kernel
theorem dX5_seatBehind_1 : decode cX5_seatBehind 1 = .ok (.iconst 1, 1) := by decide +kernel
theorem dX5_seatBehind_2 : decode cX5_seatBehind 2 = .ok (.iadd, 1) := by decide +kernel
theorem dX5_seatBehind_3 : decode cX5_seatBehind 3 = .ok (.aload_n 0, 1) := by decide +kernel
theorem dX5_seatBehind_4 : decode cX5_seatBehind 4 = .ok (.getfield 37, 3) := by decide +kernel
theorem dX5_seatBehind_7 : decode cX5_seatBehind 7 = .ok (.if_icmp .ge 9, 3) := by decide +kernel
theorem dX5_seatBehind_10 : decode cX5_seatBehind 10 = .ok (.iload_n 1, 1) := by decide +kernel
theorem dX5_seatBehind_11 : decode cX5_seatBehind 11 = .ok (.iconst 1, 1) := by decide +kernel
theorem dX5_seatBehind_12 : decode cX5_seatBehind 12 = .ok (.iadd, 1) := by decide +kernel
theorem dX5_seatBehind_13 : decode cX5_seatBehind 13 = .ok (.goto 4, 3) := by decide +kernel
theorem dX5_seatBehind_16 : decode cX5_seatBehind 16 = .ok (.iconst 0, 1) := by decide +kernel
theorem dX5_seatBehind_17 : decode cX5_seatBehind 17 = .ok (.ireturn, 1) := by decide +kernel
theorem dX5_isContent_0 : decode cX5_isContent 0 = .ok (.aload_n 0, 1) := by decide +kernel
theorem dX5_isContent_1 : decode cX5_isContent 1 = .ok (.getfield 15, 3) := by decide +kernel
theorem dX5_isContent_4 : decode cX5_isContent 4 = .ok (.aload_n 0, 1) := by decide +kernel
theorem dX5_isContent_5 : decode cX5_isContent 5 = .ok (.getfield 9, 3) := by decide +kernel
theorem dX5_isContent_8 : decode cX5_isContent 8 = .ok (.iload_n 1, 1) := by decide +kernel
theorem dX5_isContent_9 : decode cX5_isContent 9 = .ok (.iaload, 1) := by decide +kernel
theorem dX5_isContent_10 : decode cX5_isContent 10 = .ok (.iaload, 1) := by decide +kernel
theorem dX5_isContent_11 : decode cX5_isContent 11 = .ok (.istore_n 2, 1) := by decide +kernel
theorem dX5_isContent_12 : decode cX5_isContent 12 = .ok (.iload_n 2, 1) := by decide +kernel
theorem dX5_isContent_13 : decode cX5_isContent 13 = .ok (.iconst (-1), 1) := by decide +kernel
theorem dX5_isContent_14 : decode cX5_isContent 14 = .ok (.if_icmp .ne 5, 3) := by decide +kernel
theorem dX5_isContent_17 : decode cX5_isContent 17 = .ok (.iconst 1, 1) := by decide +kernel
theorem dX5_isContent_18 : decode cX5_isContent 18 = .ok (.ireturn, 1) := by decide +kernel
theorem dX5_isContent_19 : decode cX5_isContent 19 = .ok (.iload_n 1, 1) := by decide +kernel
theorem dX5_isContent_20 : decode cX5_isContent 20 = .ok (.ifCond .gt 10, 3) := by decide +kernel
theorem dX5_isContent_23 : decode cX5_isContent 23 = .ok (.aload_n 0, 1) := by decide +kernel
theorem dX5_isContent_24 : decode cX5_isContent 24 = .ok (.getfield 45, 3) := by decide +kernel
theorem dX5_isContent_27 : decode cX5_isContent 27 = .ok (.ifCond .eq 32, 3) := by decide +kernel
theorem dX5_isContent_30 : decode cX5_isContent 30 = .ok (.aload_n 0, 1) := by decide +kernel
theorem dX5_isContent_31 : decode cX5_isContent 31 = .ok (.getfield 9, 3) := by decide +kernel
theorem dX5_isContent_34 : decode cX5_isContent 34 = .ok (.iload_n 1, 1) := by decide +kernel
theorem dX5_isContent_35 : decode cX5_isContent 35 = .ok (.ifCond .le 9, 3) := by decide +kernel
theorem dX5_isContent_38 : decode cX5_isContent 38 = .ok (.iload_n 1, 1) := by decide +kernel
theorem dX5_isContent_39 : decode cX5_isContent 39 = .ok (.iconst 1, 1) := by decide +kernel
theorem dX5_isContent_40 : decode cX5_isContent 40 = .ok (.isub, 1) := by decide +kernel
theorem dX5_isContent_41 : decode cX5_isContent 41 = .ok (.goto 9, 3) := by decide +kernel
theorem dX5_isContent_44 : decode cX5_isContent 44 = .ok (.aload_n 0, 1) := by decide +kernel
theorem dX5_isContent_45 : decode cX5_isContent 45 = .ok (.getfield 37, 3) := by decide +kernel
theorem dX5_isContent_48 : decode cX5_isContent 48 = .ok (.iconst 1, 1) := by decide +kernel
theorem dX5_isContent_49 : decode cX5_isContent 49 = .ok (.isub, 1) := by decide +kernel
theorem dX5_isContent_50 : decode cX5_isContent 50 = .ok (.iaload, 1) := by decide +kernel
theorem dX5_isContent_51 : decode cX5_isContent 51 = .ok (.iload_n 2, 1) := by decide +kernel
theorem dX5_isContent_52 : decode cX5_isContent 52 = .ok (.if_icmp .ne 7, 3) := by decide +kernel
theorem dX5_isContent_55 : decode cX5_isContent 55 = .ok (.iconst 1, 1) := by decide +kernel
theorem dX5_isContent_56 : decode cX5_isContent 56 = .ok (.goto 4, 3) := by decide +kernel
theorem dX5_isContent_59 : decode cX5_isContent 59 = .ok (.iconst 0, 1) := by decide +kernel
theorem dX5_isContent_60 : decode cX5_isContent 60 = .ok (.istore_n 3, 1) := by decide +kernel
theorem dX5_isContent_61 : decode cX5_isContent 61 = .ok (.iload_n 1, 1) := by decide +kernel
theorem dX5_isContent_62 : decode cX5_isContent 62 = .ok (.iconst 1, 1) := by decide +kernel
theorem dX5_isContent_63 : decode cX5_isContent 63 = .ok (.iadd, 1) := by decide +kernel
theorem dX5_isContent_64 : decode cX5_isContent 64 = .ok (.aload_n 0, 1) := by decide +kernel
theorem dX5_isContent_65 : decode cX5_isContent 65 = .ok (.getfield 37, 3) := by decide +kernel
theorem dX5_isContent_68 : decode cX5_isContent 68 = .ok (.if_icmp .lt 10, 3) := by decide +kernel
theorem dX5_isContent_71 : decode cX5_isContent 71 = .ok (.aload_n 0, 1) := by decide +kernel
theorem dX5_isContent_72 : decode cX5_isContent 72 = .ok (.getfield 45, 3) := by decide +kernel
theorem dX5_isContent_75 : decode cX5_isContent 75 = .ok (.ifCond .eq 21, 3) := by decide +kernel
theorem dX5_isContent_78 : decode cX5_isContent 78 = .ok (.aload_n 0, 1) := by decide +kernel
theorem dX5_isContent_79 : decode cX5_isContent 79 = .ok (.getfield 9, 3) := by decide +kernel
theorem dX5_isContent_82 : decode cX5_isContent 82 = .ok (.aload_n 0, 1) := by decide +kernel
theorem dX5_isContent_83 : decode cX5_isContent 83 = .ok (.iload_n 1, 1) := by decide +kernel
theorem dX5_isContent_84 : decode cX5_isContent 84 = .ok (.invokevirtual 61, 3) := by decide +kernel
theorem dX5_isContent_87 : decode cX5_isContent 87 = .ok (.iaload, 1) := by decide +kernel
theorem dX5_isContent_88 : decode cX5_isContent 88 = .ok (.iload_n 2, 1) := by decide +kernel
theorem dX5_isContent_89 : decode cX5_isContent 89 = .ok (.if_icmp .ne 7, 3) := by decide +kernel
theorem dX5_isContent_92 : decode cX5_isContent 92 = .ok (.iconst 1, 1) := by decide +kernel
theorem dX5_isContent_93 : decode cX5_isContent 93 = .ok (.goto 4, 3) := by decide +kernel
theorem dX5_isContent_96 : decode cX5_isContent 96 = .ok (.iconst 0, 1) := by decide +kernel
theorem dX5_isContent_97 : decode cX5_isContent 97 = .ok (.istore 4, 2) := by decide +kernel
theorem dX5_isContent_99 : decode cX5_isContent 99 = .ok (.iload_n 3, 1) := by decide +kernel
theorem dX5_isContent_100 : decode cX5_isContent 100 = .ok (.ifCond .ne 8, 3) := by decide +kernel
theorem dX5_isContent_103 : decode cX5_isContent 103 = .ok (.iload 4, 2) := by decide +kernel
theorem dX5_isContent_105 : decode cX5_isContent 105 = .ok (.ifCond .eq 7, 3) := by decide +kernel
theorem dX5_isContent_108 : decode cX5_isContent 108 = .ok (.iconst 1, 1) := by decide +kernel
theorem dX5_isContent_109 : decode cX5_isContent 109 = .ok (.goto 4, 3) := by decide +kernel
theorem dX5_isContent_112 : decode cX5_isContent 112 = .ok (.iconst 0, 1) := by decide +kernel
theorem dX5_isContent_113 : decode cX5_isContent 113 = .ok (.ireturn, 1) := by decide +kernel
theorem dX5_firstWronged_0 : decode cX5_firstWronged 0 = .ok (.iconst 0, 1) := by decide +kernel
theorem dX5_firstWronged_1 : decode cX5_firstWronged 1 = .ok (.istore_n 1, 1) := by decide +kernel
theorem dX5_firstWronged_2 : decode cX5_firstWronged 2 = .ok (.iload_n 1, 1) := by decide +kernel
theorem dX5_firstWronged_3 : decode cX5_firstWronged 3 = .ok (.aload_n 0, 1) := by decide +kernel
theorem dX5_firstWronged_4 : decode cX5_firstWronged 4 = .ok (.getfield 37, 3) := by decide +kernel
theorem dX5_firstWronged_7 : decode cX5_firstWronged 7 = .ok (.if_icmp .ge 19, 3) := by decide +kernel
theorem dX5_firstWronged_10 : decode cX5_firstWronged 10 = .ok (.aload_n 0, 1) := by decide +kernel
theorem dX5_firstWronged_11 : decode cX5_firstWronged 11 = .ok (.iload_n 1, 1) := by decide +kernel
theorem dX5_firstWronged_12 : decode cX5_firstWronged 12 = .ok (.invokevirtual 64, 3) := by decide +kernel
theorem dX5_firstWronged_15 : decode cX5_firstWronged 15 = .ok (.ifCond .ne 5, 3) := by decide +kernel
theorem dX5_firstWronged_18 : decode cX5_firstWronged 18 = .ok (.iload_n 1, 1) := by decide +kernel
theorem dX5_firstWronged_19 : decode cX5_firstWronged 19 = .ok (.ireturn, 1) := by decide +kernel
theorem dX5_firstWronged_20 : decode cX5_firstWronged 20 = .ok (.iinc 1 1, 3) := by decide +kernel
theorem dX5_firstWronged_23 : decode cX5_firstWronged 23 = .ok (.goto (-21), 3) := by decide +kernel
theorem dX5_firstWronged_26 : decode cX5_firstWronged 26 = .ok (.iconst (-1), 1) := by decide +kernel
theorem dX5_firstWronged_27 : decode cX5_firstWronged 27 = .ok (.ireturn, 1) := by decide +kernel
theorem dX5_joy_0 : decode cX5_joy 0 = .ok (.iconst 0, 1) := by decide +kernel
theorem dX5_joy_1 : decode cX5_joy 1 = .ok (.istore_n 3, 1) := by decide +kernel
theorem dX5_joy_2 : decode cX5_joy 2 = .ok (.iconst 0, 1) := by decide +kernel
theorem dX5_joy_3 : decode cX5_joy 3 = .ok (.istore 4, 2) := by decide +kernel
theorem dX5_joy_5 : decode cX5_joy 5 = .ok (.iload 4, 2) := by decide +kernel
theorem dX5_joy_7 : decode cX5_joy 7 = .ok (.aload_n 0, 1) := by decide +kernel
theorem dX5_joy_8 : decode cX5_joy 8 = .ok (.invokevirtual 68, 3) := by decide +kernel
theorem dX5_joy_11 : decode cX5_joy 11 = .ok (.if_icmp .ge 47, 3) := by decide +kernel
theorem dX5_joy_14 : decode cX5_joy 14 = .ok (.aload_n 0, 1) := by decide +kernel
theorem dX5_joy_15 : decode cX5_joy 15 = .ok (.iload 4, 2) := by decide +kernel
theorem dX5_joy_17 : decode cX5_joy 17 = .ok (.invokevirtual 61, 3) := by decide +kernel
theorem dX5_joy_20 : decode cX5_joy 20 = .ok (.istore 5, 2) := by decide +kernel
theorem dX5_joy_22 : decode cX5_joy 22 = .ok (.iload_n 3, 1) := by decide +kernel
theorem dX5_joy_23 : decode cX5_joy 23 = .ok (.aload_n 1, 1) := by decide +kernel
theorem dX5_joy_24 : decode cX5_joy 24 = .ok (.aload_n 2, 1) := by decide +kernel
theorem dX5_joy_25 : decode cX5_joy 25 = .ok (.aload_n 0, 1) := by decide +kernel
theorem dX5_joy_26 : decode cX5_joy 26 = .ok (.getfield 9, 3) := by decide +kernel
theorem dX5_joy_29 : decode cX5_joy 29 = .ok (.iload 4, 2) := by decide +kernel
theorem dX5_joy_31 : decode cX5_joy 31 = .ok (.iaload, 1) := by decide +kernel
theorem dX5_joy_32 : decode cX5_joy 32 = .ok (.iload 4, 2) := by decide +kernel
theorem dX5_joy_34 : decode cX5_joy 34 = .ok (.aload_n 0, 1) := by decide +kernel
theorem dX5_joy_35 : decode cX5_joy 35 = .ok (.getfield 9, 3) := by decide +kernel
theorem dX5_joy_38 : decode cX5_joy 38 = .ok (.iload 5, 2) := by decide +kernel
theorem dX5_joy_40 : decode cX5_joy 40 = .ok (.iaload, 1) := by decide +kernel
theorem dX5_joy_41 : decode cX5_joy 41 = .ok (.iload 5, 2) := by decide +kernel
theorem dX5_joy_43 : decode cX5_joy 43 = .ok (.aload_n 0, 1) := by decide +kernel
theorem dX5_joy_44 : decode cX5_joy 44 = .ok (.getfield 37, 3) := by decide +kernel
theorem dX5_joy_47 : decode cX5_joy 47 = .ok (.invokevirtual 72, 3) := by decide +kernel
theorem dX5_joy_50 : decode cX5_joy 50 = .ok (.iadd, 1) := by decide +kernel
theorem dX5_joy_51 : decode cX5_joy 51 = .ok (.istore_n 3, 1) := by decide +kernel
theorem dX5_joy_52 : decode cX5_joy 52 = .ok (.iinc 4 1, 3) := by decide +kernel
theorem dX5_joy_55 : decode cX5_joy 55 = .ok (.goto (-50), 3) := by decide +kernel
theorem dX5_joy_58 : decode cX5_joy 58 = .ok (.iload_n 3, 1) := by decide +kernel
theorem dX5_joy_59 : decode cX5_joy 59 = .ok (.ireturn, 1) := by decide +kernel
theorem dX5_hold_0 : decode cX5_hold 0 = .ok (.iconst 0, 1) := by decide +kernel
theorem dX5_hold_1 : decode cX5_hold 1 = .ok (.istore_n 3, 1) := by decide +kernel
theorem dX5_hold_2 : decode cX5_hold 2 = .ok (.iload_n 3, 1) := by decide +kernel
theorem dX5_hold_3 : decode cX5_hold 3 = .ok (.aload_n 0, 1) := by decide +kernel
theorem dX5_hold_4 : decode cX5_hold 4 = .ok (.invokevirtual 68, 3) := by decide +kernel
theorem dX5_hold_7 : decode cX5_hold 7 = .ok (.if_icmp .ge 41, 3) := by decide +kernel
theorem dX5_hold_10 : decode cX5_hold 10 = .ok (.aload_n 0, 1) := by decide +kernel
theorem dX5_hold_11 : decode cX5_hold 11 = .ok (.iload_n 3, 1) := by decide +kernel
theorem dX5_hold_12 : decode cX5_hold 12 = .ok (.invokevirtual 61, 3) := by decide +kernel
theorem dX5_hold_15 : decode cX5_hold 15 = .ok (.istore 4, 2) := by decide +kernel
theorem dX5_hold_17 : decode cX5_hold 17 = .ok (.aload_n 1, 1) := by decide +kernel
theorem dX5_hold_18 : decode cX5_hold 18 = .ok (.aload_n 2, 1) := by decide +kernel
theorem dX5_hold_19 : decode cX5_hold 19 = .ok (.aload_n 0, 1) := by decide +kernel
theorem dX5_hold_20 : decode cX5_hold 20 = .ok (.getfield 9, 3) := by decide +kernel
theorem dX5_hold_23 : decode cX5_hold 23 = .ok (.iload_n 3, 1) := by decide +kernel
theorem dX5_hold_24 : decode cX5_hold 24 = .ok (.iaload, 1) := by decide +kernel
theorem dX5_hold_25 : decode cX5_hold 25 = .ok (.iload_n 3, 1) := by decide +kernel
theorem dX5_hold_26 : decode cX5_hold 26 = .ok (.aload_n 0, 1) := by decide +kernel
theorem dX5_hold_27 : decode cX5_hold 27 = .ok (.getfield 9, 3) := by decide +kernel
theorem dX5_hold_30 : decode cX5_hold 30 = .ok (.iload 4, 2) := by decide +kernel
theorem dX5_hold_32 : decode cX5_hold 32 = .ok (.iaload, 1) := by decide +kernel
theorem dX5_hold_33 : decode cX5_hold 33 = .ok (.iload 4, 2) := by decide +kernel
theorem dX5_hold_35 : decode cX5_hold 35 = .ok (.aload_n 0, 1) := by decide +kernel
theorem dX5_hold_36 : decode cX5_hold 36 = .ok (.getfield 37, 3) := by decide +kernel
theorem dX5_hold_39 : decode cX5_hold 39 = .ok (.invokevirtual 78, 3) := by decide +kernel
theorem dX5_hold_42 : decode cX5_hold 42 = .ok (.iinc 3 1, 3) := by decide +kernel
theorem dX5_hold_45 : decode cX5_hold 45 = .ok (.goto (-43), 3) := by decide +kernel
theorem dX5_hold_48 : decode cX5_hold 48 = .ok (.return_, 1) := by decide +kernel
theorem dX5_countUpTo_0 : decode cX5_countUpTo 0 = .ok (.aload_n 0, 1) := by decide +kernel
theorem dX5_countUpTo_1 : decode cX5_countUpTo 1 = .ok (.iconst 0, 1) := by decide +kernel
theorem dX5_countUpTo_2 : decode cX5_countUpTo 2 = .ok (.putfield 82, 3) := by decide +kernel
theorem dX5_countUpTo_5 : decode cX5_countUpTo 5 = .ok (.aload_n 0, 1) := by decide +kernel
theorem dX5_countUpTo_6 : decode cX5_countUpTo 6 = .ok (.iconst 0, 1) := by decide +kernel
theorem dX5_countUpTo_7 : decode cX5_countUpTo 7 = .ok (.putfield 85, 3) := by decide +kernel
theorem dX5_countUpTo_10 : decode cX5_countUpTo 10 = .ok (.aload_n 0, 1) := by decide +kernel
theorem dX5_countUpTo_11 : decode cX5_countUpTo 11 = .ok (.iload_n 1, 1) := by decide +kernel
theorem dX5_countUpTo_12 : decode cX5_countUpTo 12 = .ok (.putfield 88, 3) := by decide +kernel
theorem dX5_countUpTo_15 : decode cX5_countUpTo 15 = .ok (.aload_n 0, 1) := by decide +kernel
theorem dX5_countUpTo_16 : decode cX5_countUpTo 16 = .ok (.iconst 0, 1) := by decide +kernel
theorem dX5_countUpTo_17 : decode cX5_countUpTo 17 = .ok (.iconst 0, 1) := by decide +kernel
theorem dX5_countUpTo_18 : decode cX5_countUpTo 18 = .ok (.iconst 0, 1) := by decide +kernel
theorem dX5_countUpTo_19 : decode cX5_countUpTo 19 = .ok (.invokevirtual 91, 3) := by decide +kernel
theorem dX5_countUpTo_22 : decode cX5_countUpTo 22 = .ok (.aload_n 0, 1) := by decide +kernel
theorem dX5_countUpTo_23 : decode cX5_countUpTo 23 = .ok (.getfield 85, 3) := by decide +kernel
theorem dX5_countUpTo_26 : decode cX5_countUpTo 26 = .ok (.ireturn, 1) := by decide +kernel
theorem dX5_findBest_0 : decode cX5_findBest 0 = .ok (.aload_n 0, 1) := by decide +kernel
theorem dX5_findBest_1 : decode cX5_findBest 1 = .ok (.iconst 1, 1) := by decide +kernel
theorem dX5_findBest_2 : decode cX5_findBest 2 = .ok (.putfield 82, 3) := by decide +kernel
theorem dX5_findBest_5 : decode cX5_findBest 5 = .ok (.aload_n 0, 1) := by decide +kernel
theorem dX5_findBest_6 : decode cX5_findBest 6 = .ok (.iconst 0, 1) := by decide +kernel
theorem dX5_findBest_7 : decode cX5_findBest 7 = .ok (.putfield 85, 3) := by decide +kernel
theorem dX5_findBest_10 : decode cX5_findBest 10 = .ok (.aload_n 0, 1) := by decide +kernel
theorem dX5_findBest_11 : decode cX5_findBest 11 = .ok (.ldc 95, 2) := by decide +kernel
theorem dX5_findBest_13 : decode cX5_findBest 13 = .ok (.putfield 88, 3) := by decide +kernel
theorem dX5_findBest_16 : decode cX5_findBest 16 = .ok (.aload_n 0, 1) := by decide +kernel
theorem dX5_findBest_17 : decode cX5_findBest 17 = .ok (.iconst 0, 1) := by decide +kernel
theorem dX5_findBest_18 : decode cX5_findBest 18 = .ok (.putfield 96, 3) := by decide +kernel
theorem dX5_findBest_21 : decode cX5_findBest 21 = .ok (.aload_n 0, 1) := by decide +kernel
theorem dX5_findBest_22 : decode cX5_findBest 22 = .ok (.iconst 0, 1) := by decide +kernel
theorem dX5_findBest_23 : decode cX5_findBest 23 = .ok (.iconst 0, 1) := by decide +kernel
theorem dX5_findBest_24 : decode cX5_findBest 24 = .ok (.iconst 0, 1) := by decide +kernel
theorem dX5_findBest_25 : decode cX5_findBest 25 = .ok (.invokevirtual 91, 3) := by decide +kernel
theorem dX5_findBest_28 : decode cX5_findBest 28 = .ok (.aload_n 0, 1) := by decide +kernel
theorem dX5_findBest_29 : decode cX5_findBest 29 = .ok (.getfield 85, 3) := by decide +kernel
theorem dX5_findBest_32 : decode cX5_findBest 32 = .ok (.ifCond .le 7, 3) := by decide +kernel
theorem dX5_findBest_35 : decode cX5_findBest 35 = .ok (.iconst 1, 1) := by decide +kernel
theorem dX5_findBest_36 : decode cX5_findBest 36 = .ok (.goto 4, 3) := by decide +kernel
theorem dX5_findBest_39 : decode cX5_findBest 39 = .ok (.iconst 0, 1) := by decide +kernel
theorem dX5_findBest_40 : decode cX5_findBest 40 = .ok (.ireturn, 1) := by decide +kernel
theorem dX5_place_0 : decode cX5_place 0 = .ok (.iload_n 1, 1) := by decide +kernel
theorem dX5_place_1 : decode cX5_place 1 = .ok (.aload_n 0, 1) := by decide +kernel
theorem dX5_place_2 : decode cX5_place 2 = .ok (.getfield 37, 3) := by decide +kernel
theorem dX5_place_5 : decode cX5_place 5 = .ok (.if_icmp .lt 9, 3) := by decide +kernel
theorem dX5_place_8 : decode cX5_place 8 = .ok (.aload_n 0, 1) := by decide +kernel
theorem dX5_place_9 : decode cX5_place 9 = .ok (.iload_n 3, 1) := by decide +kernel
theorem dX5_place_10 : decode cX5_place 10 = .ok (.invokevirtual 99, 3) := by decide +kernel
theorem dX5_place_13 : decode cX5_place 13 = .ok (.return_, 1) := by decide +kernel
theorem dX5_place_14 : decode cX5_place 14 = .ok (.aload_n 0, 1) := by decide +kernel
theorem dX5_place_15 : decode cX5_place 15 = .ok (.getfield 82, 3) := by decide +kernel
theorem dX5_place_18 : decode cX5_place 18 = .ok (.ifCond .eq 26, 3) := by decide +kernel
theorem dX5_place_21 : decode cX5_place 21 = .ok (.aload_n 0, 1) := by decide +kernel
theorem dX5_place_22 : decode cX5_place 22 = .ok (.getfield 85, 3) := by decide +kernel
theorem dX5_place_25 : decode cX5_place 25 = .ok (.ifCond .le 19, 3) := by decide +kernel
theorem dX5_place_28 : decode cX5_place 28 = .ok (.iload_n 3, 1) := by decide +kernel
theorem dX5_place_29 : decode cX5_place 29 = .ok (.aload_n 0, 1) := by decide +kernel
theorem dX5_place_30 : decode cX5_place 30 = .ok (.getfield 24, 3) := by decide +kernel
theorem dX5_place_33 : decode cX5_place 33 = .ok (.iload_n 1, 1) := by decide +kernel
theorem dX5_place_34 : decode cX5_place 34 = .ok (.iaload, 1) := by decide +kernel
theorem dX5_place_35 : decode cX5_place 35 = .ok (.iadd, 1) := by decide +kernel
theorem dX5_place_36 : decode cX5_place 36 = .ok (.aload_n 0, 1) := by decide +kernel
theorem dX5_place_37 : decode cX5_place 37 = .ok (.getfield 96, 3) := by decide +kernel
theorem dX5_place_40 : decode cX5_place 40 = .ok (.if_icmp .gt 4, 3) := by decide +kernel
theorem dX5_place_43 : decode cX5_place 43 = .ok (.return_, 1) := by decide +kernel
theorem dX5_place_44 : decode cX5_place 44 = .ok (.iload_n 1, 1) := by decide +kernel
theorem dX5_place_45 : decode cX5_place 45 = .ok (.ifCond .ne 23, 3) := by decide +kernel
theorem dX5_place_48 : decode cX5_place 48 = .ok (.aload_n 0, 1) := by decide +kernel
theorem dX5_place_49 : decode cX5_place 49 = .ok (.getfield 45, 3) := by decide +kernel
theorem dX5_place_52 : decode cX5_place 52 = .ok (.ifCond .eq 16, 3) := by decide +kernel
theorem dX5_place_55 : decode cX5_place 55 = .ok (.aload_n 0, 1) := by decide +kernel
theorem dX5_place_56 : decode cX5_place 56 = .ok (.getfield 27, 3) := by decide +kernel
theorem dX5_place_59 : decode cX5_place 59 = .ok (.aload_n 0, 1) := by decide +kernel
theorem dX5_place_60 : decode cX5_place 60 = .ok (.getfield 27, 3) := by decide +kernel
theorem dX5_place_63 : decode cX5_place 63 = .ok (.ineg, 1) := by decide +kernel
theorem dX5_place_64 : decode cX5_place 64 = .ok (.iand, 1) := by decide +kernel
theorem dX5_place_65 : decode cX5_place 65 = .ok (.goto 11, 3) := by decide +kernel
theorem dX5_place_68 : decode cX5_place 68 = .ok (.aload_n 0, 1) := by decide +kernel
theorem dX5_place_69 : decode cX5_place 69 = .ok (.getfield 27, 3) := by decide +kernel
theorem dX5_place_72 : decode cX5_place 72 = .ok (.iload_n 2, 1) := by decide +kernel
theorem dX5_place_73 : decode cX5_place 73 = .ok (.iconst (-1), 1) := by decide +kernel
theorem dX5_place_74 : decode cX5_place 74 = .ok (.ixor, 1) := by decide +kernel
theorem dX5_place_75 : decode cX5_place 75 = .ok (.iand, 1) := by decide +kernel
theorem dX5_place_76 : decode cX5_place 76 = .ok (.istore 4, 2) := by decide +kernel
theorem dX5_place_78 : decode cX5_place 78 = .ok (.iconst 0, 1) := by decide +kernel
theorem dX5_place_79 : decode cX5_place 79 = .ok (.istore 5, 2) := by decide +kernel
theorem dX5_place_81 : decode cX5_place 81 = .ok (.iload 5, 2) := by decide +kernel
theorem dX5_place_83 : decode cX5_place 83 = .ok (.bipush 7, 2) := by decide +kernel
theorem dX5_place_85 : decode cX5_place 85 = .ok (.if_icmp .ge 66, 3) := by decide +kernel
theorem dX5_place_88 : decode cX5_place 88 = .ok (.aload_n 0, 1) := by decide +kernel
theorem dX5_place_89 : decode cX5_place 89 = .ok (.getfield 85, 3) := by decide +kernel
theorem dX5_place_92 : decode cX5_place 92 = .ok (.aload_n 0, 1) := by decide +kernel
theorem dX5_place_93 : decode cX5_place 93 = .ok (.getfield 88, 3) := by decide +kernel
theorem dX5_place_96 : decode cX5_place 96 = .ok (.if_icmp .ge 55, 3) := by decide +kernel
theorem dX5_place_99 : decode cX5_place 99 = .ok (.iload 4, 2) := by decide +kernel
theorem dX5_place_101 : decode cX5_place 101 = .ok (.iload 5, 2) := by decide +kernel
theorem dX5_place_103 : decode cX5_place 103 = .ok (.invokestatic 48, 3) := by decide +kernel
theorem dX5_place_106 : decode cX5_place 106 = .ok (.ifCond .eq 39, 3) := by decide +kernel
theorem dX5_place_109 : decode cX5_place 109 = .ok (.aload_n 0, 1) := by decide +kernel
theorem dX5_place_110 : decode cX5_place 110 = .ok (.getfield 9, 3) := by decide +kernel
theorem dX5_place_113 : decode cX5_place 113 = .ok (.iload_n 1, 1) := by decide +kernel
theorem dX5_place_114 : decode cX5_place 114 = .ok (.iload 5, 2) := by decide +kernel
theorem dX5_place_116 : decode cX5_place 116 = .ok (.iastore, 1) := by decide +kernel
theorem dX5_place_117 : decode cX5_place 117 = .ok (.aload_n 0, 1) := by decide +kernel
theorem dX5_place_118 : decode cX5_place 118 = .ok (.iload_n 1, 1) := by decide +kernel
theorem dX5_place_119 : decode cX5_place 119 = .ok (.invokevirtual 103, 3) := by decide +kernel
theorem dX5_place_122 : decode cX5_place 122 = .ok (.ifCond .eq 23, 3) := by decide +kernel
theorem dX5_place_125 : decode cX5_place 125 = .ok (.aload_n 0, 1) := by decide +kernel
theorem dX5_place_126 : decode cX5_place 126 = .ok (.iload_n 1, 1) := by decide +kernel
theorem dX5_place_127 : decode cX5_place 127 = .ok (.iconst 1, 1) := by decide +kernel
theorem dX5_place_128 : decode cX5_place 128 = .ok (.iadd, 1) := by decide +kernel
theorem dX5_place_129 : decode cX5_place 129 = .ok (.iload_n 2, 1) := by decide +kernel
theorem dX5_place_130 : decode cX5_place 130 = .ok (.iconst 1, 1) := by decide +kernel
theorem dX5_place_131 : decode cX5_place 131 = .ok (.iload 5, 2) := by decide +kernel
theorem dX5_place_133 : decode cX5_place 133 = .ok (.ishl, 1) := by decide +kernel
theorem dX5_place_134 : decode cX5_place 134 = .ok (.ior, 1) := by decide +kernel
theorem dX5_place_135 : decode cX5_place 135 = .ok (.iload_n 3, 1) := by decide +kernel
theorem dX5_place_136 : decode cX5_place 136 = .ok (.aload_n 0, 1) := by decide +kernel
theorem dX5_place_137 : decode cX5_place 137 = .ok (.iload_n 1, 1) := by decide +kernel
theorem dX5_place_138 : decode cX5_place 138 = .ok (.invokevirtual 106, 3) := by decide +kernel
theorem dX5_place_141 : decode cX5_place 141 = .ok (.iadd, 1) := by decide +kernel
theorem dX5_place_142 : decode cX5_place 142 = .ok (.invokevirtual 91, 3) := by decide +kernel
theorem dX5_place_145 : decode cX5_place 145 = .ok (.iinc 5 1, 3) := by decide +kernel
theorem dX5_place_148 : decode cX5_place 148 = .ok (.goto (-67), 3) := by decide +kernel
theorem dX5_place_151 : decode cX5_place 151 = .ok (.return_, 1) := by decide +kernel
theorem dX5_isBearable_0 : decode cX5_isBearable 0 = .ok (.iload_n 1, 1) := by decide +kernel
theorem dX5_isBearable_1 : decode cX5_isBearable 1 = .ok (.ifCond .eq 15, 3) := by decide +kernel
theorem dX5_isBearable_4 : decode cX5_isBearable 4 = .ok (.iload_n 1, 1) := by decide +kernel
theorem dX5_isBearable_5 : decode cX5_isBearable 5 = .ok (.iconst 1, 1) := by decide +kernel
theorem dX5_isBearable_6 : decode cX5_isBearable 6 = .ok (.if_icmp .ne 12, 3) := by decide +kernel
theorem dX5_isBearable_9 : decode cX5_isBearable 9 = .ok (.aload_n 0, 1) := by decide +kernel
theorem dX5_isBearable_10 : decode cX5_isBearable 10 = .ok (.getfield 45, 3) := by decide +kernel
theorem dX5_isBearable_13 : decode cX5_isBearable 13 = .ok (.ifCond .eq 5, 3) := by decide +kernel
theorem dX5_isBearable_16 : decode cX5_isBearable 16 = .ok (.iconst 1, 1) := by decide +kernel
theorem dX5_isBearable_17 : decode cX5_isBearable 17 = .ok (.ireturn, 1) := by decide +kernel
theorem dX5_isBearable_18 : decode cX5_isBearable 18 = .ok (.aload_n 0, 1) := by decide +kernel
theorem dX5_isBearable_19 : decode cX5_isBearable 19 = .ok (.iload_n 1, 1) := by decide +kernel
theorem dX5_isBearable_20 : decode cX5_isBearable 20 = .ok (.iconst 1, 1) := by decide +kernel
theorem dX5_isBearable_21 : decode cX5_isBearable 21 = .ok (.isub, 1) := by decide +kernel
theorem dX5_isBearable_22 : decode cX5_isBearable 22 = .ok (.invokevirtual 64, 3) := by decide +kernel
theorem dX5_isBearable_25 : decode cX5_isBearable 25 = .ok (.ireturn, 1) := by decide +kernel
theorem dX5_added_0 : decode cX5_added 0 = .ok (.aload_n 0, 1) := by decide +kernel
theorem dX5_added_1 : decode cX5_added 1 = .ok (.getfield 82, 3) := by decide +kernel
theorem dX5_added_4 : decode cX5_added 4 = .ok (.ifCond .eq 35, 3) := by decide +kernel
theorem dX5_added_7 : decode cX5_added 7 = .ok (.iload_n 1, 1) := by decide +kernel
theorem dX5_added_8 : decode cX5_added 8 = .ok (.ifCond .le 31, 3) := by decide +kernel
theorem dX5_added_11 : decode cX5_added 11 = .ok (.aload_n 0, 1) := by decide +kernel
theorem dX5_added_12 : decode cX5_added 12 = .ok (.getfield 21, 3) := by decide +kernel
theorem dX5_added_15 : decode cX5_added 15 = .ok (.iload_n 1, 1) := by decide +kernel
theorem dX5_added_16 : decode cX5_added 16 = .ok (.iconst 1, 1) := by decide +kernel
theorem dX5_added_17 : decode cX5_added 17 = .ok (.isub, 1) := by decide +kernel
theorem dX5_added_18 : decode cX5_added 18 = .ok (.aload_n 0, 1) := by decide +kernel
theorem dX5_added_19 : decode cX5_added 19 = .ok (.getfield 9, 3) := by decide +kernel
theorem dX5_added_22 : decode cX5_added 22 = .ok (.iload_n 1, 1) := by decide +kernel
theorem dX5_added_23 : decode cX5_added 23 = .ok (.iconst 1, 1) := by decide +kernel
theorem dX5_added_24 : decode cX5_added 24 = .ok (.isub, 1) := by decide +kernel
theorem dX5_added_25 : decode cX5_added 25 = .ok (.iaload, 1) := by decide +kernel
theorem dX5_added_26 : decode cX5_added 26 = .ok (.aload_n 0, 1) := by decide +kernel
theorem dX5_added_27 : decode cX5_added 27 = .ok (.getfield 9, 3) := by decide +kernel
theorem dX5_added_30 : decode cX5_added 30 = .ok (.iload_n 1, 1) := by decide +kernel
theorem dX5_added_31 : decode cX5_added 31 = .ok (.iaload, 1) := by decide +kernel
theorem dX5_added_32 : decode cX5_added 32 = .ok (.invokestatic 109, 3) := by decide +kernel
theorem dX5_added_35 : decode cX5_added 35 = .ok (.iaload, 1) := by decide +kernel
theorem dX5_added_36 : decode cX5_added 36 = .ok (.goto 4, 3) := by decide +kernel
theorem dX5_added_39 : decode cX5_added 39 = .ok (.iconst 0, 1) := by decide +kernel
theorem dX5_added_40 : decode cX5_added 40 = .ok (.ireturn, 1) := by decide +kernel
theorem dX5_worthPlace_0 : decode cX5_worthPlace 0 = .ok (.iload_n 0, 1) := by decide +kernel
theorem dX5_worthPlace_1 : decode cX5_worthPlace 1 = .ok (.bipush 7, 2) := by decide +kernel
theorem dX5_worthPlace_3 : decode cX5_worthPlace 3 = .ok (.imul, 1) := by decide +kernel
theorem dX5_worthPlace_4 : decode cX5_worthPlace 4 = .ok (.iload_n 1, 1) := by decide +kernel
theorem dX5_worthPlace_5 : decode cX5_worthPlace 5 = .ok (.iadd, 1) := by decide +kernel
theorem dX5_worthPlace_6 : decode cX5_worthPlace 6 = .ok (.bipush 7, 2) := by decide +kernel
theorem dX5_worthPlace_8 : decode cX5_worthPlace 8 = .ok (.imul, 1) := by decide +kernel
theorem dX5_worthPlace_9 : decode cX5_worthPlace 9 = .ok (.iload_n 2, 1) := by decide +kernel
theorem dX5_worthPlace_10 : decode cX5_worthPlace 10 = .ok (.iadd, 1) := by decide +kernel
theorem dX5_worthPlace_11 : decode cX5_worthPlace 11 = .ok (.ireturn, 1) := by decide +kernel
theorem dX5_close_0 : decode cX5_close 0 = .ok (.aload_n 0, 1) := by decide +kernel
theorem dX5_close_1 : decode cX5_close 1 = .ok (.getfield 37, 3) := by decide +kernel
theorem dX5_close_4 : decode cX5_close 4 = .ok (.ifCond .le 25, 3) := by decide +kernel
theorem dX5_close_7 : decode cX5_close 7 = .ok (.aload_n 0, 1) := by decide +kernel
theorem dX5_close_8 : decode cX5_close 8 = .ok (.aload_n 0, 1) := by decide +kernel
theorem dX5_close_9 : decode cX5_close 9 = .ok (.getfield 37, 3) := by decide +kernel
theorem dX5_close_12 : decode cX5_close 12 = .ok (.iconst 1, 1) := by decide +kernel
theorem dX5_close_13 : decode cX5_close 13 = .ok (.isub, 1) := by decide +kernel
theorem dX5_close_14 : decode cX5_close 14 = .ok (.invokevirtual 64, 3) := by decide +kernel
theorem dX5_close_17 : decode cX5_close 17 = .ok (.ifCond .eq 11, 3) := by decide +kernel
theorem dX5_close_20 : decode cX5_close 20 = .ok (.aload_n 0, 1) := by decide +kernel
theorem dX5_close_21 : decode cX5_close 21 = .ok (.iconst 0, 1) := by decide +kernel
theorem dX5_close_22 : decode cX5_close 22 = .ok (.invokevirtual 64, 3) := by decide +kernel
theorem dX5_close_25 : decode cX5_close 25 = .ok (.ifCond .ne 4, 3) := by decide +kernel
theorem dX5_close_28 : decode cX5_close 28 = .ok (.return_, 1) := by decide +kernel
theorem dX5_close_29 : decode cX5_close 29 = .ok (.aload_n 0, 1) := by decide +kernel
theorem dX5_close_30 : decode cX5_close 30 = .ok (.dup, 1) := by decide +kernel
theorem dX5_close_31 : decode cX5_close 31 = .ok (.getfield 85, 3) := by decide +kernel
theorem dX5_close_34 : decode cX5_close 34 = .ok (.iconst 1, 1) := by decide +kernel
theorem dX5_close_35 : decode cX5_close 35 = .ok (.iadd, 1) := by decide +kernel
theorem dX5_close_36 : decode cX5_close 36 = .ok (.putfield 85, 3) := by decide +kernel
theorem dX5_close_39 : decode cX5_close 39 = .ok (.aload_n 0, 1) := by decide +kernel
theorem dX5_close_40 : decode cX5_close 40 = .ok (.getfield 82, 3) := by decide +kernel
theorem dX5_close_43 : decode cX5_close 43 = .ok (.ifCond .ne 4, 3) := by decide +kernel
theorem dX5_close_46 : decode cX5_close 46 = .ok (.return_, 1) := by decide +kernel
theorem dX5_close_47 : decode cX5_close 47 = .ok (.iload_n 1, 1) := by decide +kernel
theorem dX5_close_48 : decode cX5_close 48 = .ok (.istore_n 2, 1) := by decide +kernel
theorem dX5_close_49 : decode cX5_close 49 = .ok (.aload_n 0, 1) := by decide +kernel
theorem dX5_close_50 : decode cX5_close 50 = .ok (.invokevirtual 68, 3) := by decide +kernel
theorem dX5_close_53 : decode cX5_close 53 = .ok (.aload_n 0, 1) := by decide +kernel
theorem dX5_close_54 : decode cX5_close 54 = .ok (.getfield 37, 3) := by decide +kernel
theorem dX5_close_57 : decode cX5_close 57 = .ok (.if_icmp .ne 44, 3) := by decide +kernel
theorem dX5_close_60 : decode cX5_close 60 = .ok (.aload_n 0, 1) := by decide +kernel
theorem dX5_close_61 : decode cX5_close 61 = .ok (.getfield 37, 3) := by decide +kernel
theorem dX5_close_64 : decode cX5_close 64 = .ok (.ifCond .le 37, 3) := by decide +kernel
theorem dX5_close_67 : decode cX5_close 67 = .ok (.iload_n 2, 1) := by decide +kernel
theorem dX5_close_68 : decode cX5_close 68 = .ok (.aload_n 0, 1) := by decide +kernel
theorem dX5_close_69 : decode cX5_close 69 = .ok (.getfield 21, 3) := by decide +kernel
theorem dX5_close_72 : decode cX5_close 72 = .ok (.aload_n 0, 1) := by decide +kernel
theorem dX5_close_73 : decode cX5_close 73 = .ok (.getfield 37, 3) := by decide +kernel
theorem dX5_close_76 : decode cX5_close 76 = .ok (.iconst 1, 1) := by decide +kernel
theorem dX5_close_77 : decode cX5_close 77 = .ok (.isub, 1) := by decide +kernel
theorem dX5_close_78 : decode cX5_close 78 = .ok (.aload_n 0, 1) := by decide +kernel
theorem dX5_close_79 : decode cX5_close 79 = .ok (.getfield 9, 3) := by decide +kernel
theorem dX5_close_82 : decode cX5_close 82 = .ok (.aload_n 0, 1) := by decide +kernel
theorem dX5_close_83 : decode cX5_close 83 = .ok (.getfield 37, 3) := by decide +kernel
theorem dX5_close_86 : decode cX5_close 86 = .ok (.iconst 1, 1) := by decide +kernel
theorem dX5_close_87 : decode cX5_close 87 = .ok (.isub, 1) := by decide +kernel
theorem dX5_close_88 : decode cX5_close 88 = .ok (.iaload, 1) := by decide +kernel
theorem dX5_close_89 : decode cX5_close 89 = .ok (.aload_n 0, 1) := by decide +kernel
theorem dX5_close_90 : decode cX5_close 90 = .ok (.getfield 9, 3) := by decide +kernel
theorem dX5_close_93 : decode cX5_close 93 = .ok (.iconst 0, 1) := by decide +kernel
theorem dX5_close_94 : decode cX5_close 94 = .ok (.iaload, 1) := by decide +kernel
theorem dX5_close_95 : decode cX5_close 95 = .ok (.invokestatic 109, 3) := by decide +kernel
theorem dX5_close_98 : decode cX5_close 98 = .ok (.iaload, 1) := by decide +kernel
theorem dX5_close_99 : decode cX5_close 99 = .ok (.iadd, 1) := by decide +kernel
theorem dX5_close_100 : decode cX5_close 100 = .ok (.istore_n 2, 1) := by decide +kernel
theorem dX5_close_101 : decode cX5_close 101 = .ok (.aload_n 0, 1) := by decide +kernel
theorem dX5_close_102 : decode cX5_close 102 = .ok (.getfield 85, 3) := by decide +kernel
theorem dX5_close_105 : decode cX5_close 105 = .ok (.iconst 1, 1) := by decide +kernel
theorem dX5_close_106 : decode cX5_close 106 = .ok (.if_icmp .eq 11, 3) := by decide +kernel
theorem dX5_close_109 : decode cX5_close 109 = .ok (.iload_n 2, 1) := by decide +kernel
theorem dX5_close_110 : decode cX5_close 110 = .ok (.aload_n 0, 1) := by decide +kernel
theorem dX5_close_111 : decode cX5_close 111 = .ok (.getfield 96, 3) := by decide +kernel
theorem dX5_close_114 : decode cX5_close 114 = .ok (.if_icmp .le 25, 3) := by decide +kernel
theorem dX5_close_117 : decode cX5_close 117 = .ok (.aload_n 0, 1) := by decide +kernel
theorem dX5_close_118 : decode cX5_close 118 = .ok (.iload_n 2, 1) := by decide +kernel
theorem dX5_close_119 : decode cX5_close 119 = .ok (.putfield 96, 3) := by decide +kernel
theorem dX5_close_122 : decode cX5_close 122 = .ok (.aload_n 0, 1) := by decide +kernel
theorem dX5_close_123 : decode cX5_close 123 = .ok (.getfield 9, 3) := by decide +kernel
theorem dX5_close_126 : decode cX5_close 126 = .ok (.iconst 0, 1) := by decide +kernel
theorem dX5_close_127 : decode cX5_close 127 = .ok (.aload_n 0, 1) := by decide +kernel
theorem dX5_close_128 : decode cX5_close 128 = .ok (.getfield 18, 3) := by decide +kernel
theorem dX5_close_131 : decode cX5_close 131 = .ok (.iconst 0, 1) := by decide +kernel
theorem dX5_close_132 : decode cX5_close 132 = .ok (.aload_n 0, 1) := by decide +kernel
theorem dX5_close_133 : decode cX5_close 133 = .ok (.getfield 37, 3) := by decide +kernel
theorem dX5_close_136 : decode cX5_close 136 = .ok (.invokestatic 113, 3) := by decide +kernel
theorem dX5_close_139 : decode cX5_close 139 = .ok (.return_, 1) := by decide +kernel
theorem dX5_weigh_0 : decode cX5_weigh 0 = .ok (.aload_n 0, 1) := by decide +kernel
theorem dX5_weigh_1 : decode cX5_weigh 1 = .ok (.getfield 24, 3) := by decide +kernel
theorem dX5_weigh_4 : decode cX5_weigh 4 = .ok (.iconst 0, 1) := by decide +kernel
theorem dX5_weigh_5 : decode cX5_weigh 5 = .ok (.invokestatic 119, 3) := by decide +kernel
theorem dX5_weigh_8 : decode cX5_weigh 8 = .ok (.aload_n 0, 1) := by decide +kernel
theorem dX5_weigh_9 : decode cX5_weigh 9 = .ok (.invokevirtual 68, 3) := by decide +kernel
theorem dX5_weigh_12 : decode cX5_weigh 12 = .ok (.iconst 1, 1) := by decide +kernel
theorem dX5_weigh_13 : decode cX5_weigh 13 = .ok (.isub, 1) := by decide +kernel
theorem dX5_weigh_14 : decode cX5_weigh 14 = .ok (.istore 4, 2) := by decide +kernel
theorem dX5_weigh_16 : decode cX5_weigh 16 = .ok (.iload 4, 2) := by decide +kernel
theorem dX5_weigh_18 : decode cX5_weigh 18 = .ok (.ifCond .lt 153, 3) := by decide +kernel
theorem dX5_weigh_21 : decode cX5_weigh 21 = .ok (.aload_n 0, 1) := by decide +kernel
theorem dX5_weigh_22 : decode cX5_weigh 22 = .ok (.iload 4, 2) := by decide +kernel
theorem dX5_weigh_24 : decode cX5_weigh 24 = .ok (.invokevirtual 61, 3) := by decide +kernel
theorem dX5_weigh_27 : decode cX5_weigh 27 = .ok (.istore 5, 2) := by decide +kernel
theorem dX5_weigh_29 : decode cX5_weigh 29 = .ok (.ldc 125, 2) := by decide +kernel
theorem dX5_weigh_31 : decode cX5_weigh 31 = .ok (.istore 6, 2) := by decide +kernel
theorem dX5_weigh_33 : decode cX5_weigh 33 = .ok (.iconst 0, 1) := by decide +kernel
theorem dX5_weigh_34 : decode cX5_weigh 34 = .ok (.istore 7, 2) := by decide +kernel
theorem dX5_weigh_36 : decode cX5_weigh 36 = .ok (.iload 7, 2) := by decide +kernel
theorem dX5_weigh_38 : decode cX5_weigh 38 = .ok (.aload_n 2, 1) := by decide +kernel
theorem dX5_weigh_39 : decode cX5_weigh 39 = .ok (.getfield 126, 3) := by decide +kernel
theorem dX5_weigh_42 : decode cX5_weigh 42 = .ok (.if_icmp .ge 102, 3) := by decide +kernel
theorem dX5_weigh_45 : decode cX5_weigh 45 = .ok (.iconst 0, 1) := by decide +kernel
theorem dX5_weigh_46 : decode cX5_weigh 46 = .ok (.istore 8, 2) := by decide +kernel
theorem dX5_weigh_48 : decode cX5_weigh 48 = .ok (.iload 8, 2) := by decide +kernel
theorem dX5_weigh_50 : decode cX5_weigh 50 = .ok (.aload_n 2, 1) := by decide +kernel
theorem dX5_weigh_51 : decode cX5_weigh 51 = .ok (.getfield 126, 3) := by decide +kernel
theorem dX5_weigh_54 : decode cX5_weigh 54 = .ok (.if_icmp .ge 84, 3) := by decide +kernel
theorem dX5_weigh_57 : decode cX5_weigh 57 = .ok (.iload 7, 2) := by decide +kernel
theorem dX5_weigh_59 : decode cX5_weigh 59 = .ok (.iload 8, 2) := by decide +kernel
theorem dX5_weigh_61 : decode cX5_weigh 61 = .ok (.if_icmp .eq 71, 3) := by decide +kernel
theorem dX5_weigh_64 : decode cX5_weigh 64 = .ok (.iload_n 3, 1) := by decide +kernel
theorem dX5_weigh_65 : decode cX5_weigh 65 = .ok (.ifCond .eq 23, 3) := by decide +kernel
theorem dX5_weigh_68 : decode cX5_weigh 68 = .ok (.aload_n 1, 1) := by decide +kernel
theorem dX5_weigh_69 : decode cX5_weigh 69 = .ok (.aload_n 2, 1) := by decide +kernel
theorem dX5_weigh_70 : decode cX5_weigh 70 = .ok (.iload 7, 2) := by decide +kernel
theorem dX5_weigh_72 : decode cX5_weigh 72 = .ok (.iload 4, 2) := by decide +kernel
theorem dX5_weigh_74 : decode cX5_weigh 74 = .ok (.iload 8, 2) := by decide +kernel
theorem dX5_weigh_76 : decode cX5_weigh 76 = .ok (.iload 5, 2) := by decide +kernel
theorem dX5_weigh_78 : decode cX5_weigh 78 = .ok (.aload_n 0, 1) := by decide +kernel
theorem dX5_weigh_79 : decode cX5_weigh 79 = .ok (.getfield 37, 3) := by decide +kernel
theorem dX5_weigh_82 : decode cX5_weigh 82 = .ok (.invokevirtual 129, 3) := by decide +kernel
theorem dX5_weigh_85 : decode cX5_weigh 85 = .ok (.goto 20, 3) := by decide +kernel
theorem dX5_weigh_88 : decode cX5_weigh 88 = .ok (.aload_n 1, 1) := by decide +kernel
theorem dX5_weigh_89 : decode cX5_weigh 89 = .ok (.aload_n 2, 1) := by decide +kernel
theorem dX5_weigh_90 : decode cX5_weigh 90 = .ok (.iload 7, 2) := by decide +kernel
theorem dX5_weigh_92 : decode cX5_weigh 92 = .ok (.iload 4, 2) := by decide +kernel
theorem dX5_weigh_94 : decode cX5_weigh 94 = .ok (.iload 8, 2) := by decide +kernel
theorem dX5_weigh_96 : decode cX5_weigh 96 = .ok (.iload 5, 2) := by decide +kernel
theorem dX5_weigh_98 : decode cX5_weigh 98 = .ok (.aload_n 0, 1) := by decide +kernel
theorem dX5_weigh_99 : decode cX5_weigh 99 = .ok (.getfield 37, 3) := by decide +kernel
theorem dX5_weigh_102 : decode cX5_weigh 102 = .ok (.invokevirtual 72, 3) := by decide +kernel
theorem dX5_weigh_105 : decode cX5_weigh 105 = .ok (.istore 9, 2) := by decide +kernel
theorem dX5_weigh_107 : decode cX5_weigh 107 = .ok (.aload_n 0, 1) := by decide +kernel
theorem dX5_weigh_108 : decode cX5_weigh 108 = .ok (.getfield 21, 3) := by decide +kernel
theorem dX5_weigh_111 : decode cX5_weigh 111 = .ok (.iload 4, 2) := by decide +kernel
theorem dX5_weigh_113 : decode cX5_weigh 113 = .ok (.iload 7, 2) := by decide +kernel
theorem dX5_weigh_115 : decode cX5_weigh 115 = .ok (.iload 8, 2) := by decide +kernel
theorem dX5_weigh_117 : decode cX5_weigh 117 = .ok (.invokestatic 109, 3) := by decide +kernel
theorem dX5_weigh_120 : decode cX5_weigh 120 = .ok (.iload 9, 2) := by decide +kernel
theorem dX5_weigh_122 : decode cX5_weigh 122 = .ok (.iastore, 1) := by decide +kernel
theorem dX5_weigh_123 : decode cX5_weigh 123 = .ok (.iload 6, 2) := by decide +kernel
theorem dX5_weigh_125 : decode cX5_weigh 125 = .ok (.iload 9, 2) := by decide +kernel
theorem dX5_weigh_127 : decode cX5_weigh 127 = .ok (.invokestatic 56, 3) := by decide +kernel
theorem dX5_weigh_130 : decode cX5_weigh 130 = .ok (.istore 6, 2) := by decide +kernel
theorem dX5_weigh_132 : decode cX5_weigh 132 = .ok (.iinc 8 1, 3) := by decide +kernel
theorem dX5_weigh_135 : decode cX5_weigh 135 = .ok (.goto (-87), 3) := by decide +kernel
theorem dX5_weigh_138 : decode cX5_weigh 138 = .ok (.iinc 7 1, 3) := by decide +kernel
theorem dX5_weigh_141 : decode cX5_weigh 141 = .ok (.goto (-105), 3) := by decide +kernel
theorem dX5_weigh_144 : decode cX5_weigh 144 = .ok (.aload_n 0, 1) := by decide +kernel
theorem dX5_weigh_145 : decode cX5_weigh 145 = .ok (.getfield 24, 3) := by decide +kernel
theorem dX5_weigh_148 : decode cX5_weigh 148 = .ok (.iload 4, 2) := by decide +kernel
theorem dX5_weigh_150 : decode cX5_weigh 150 = .ok (.iconst 1, 1) := by decide +kernel
theorem dX5_weigh_151 : decode cX5_weigh 151 = .ok (.iadd, 1) := by decide +kernel
theorem dX5_weigh_152 : decode cX5_weigh 152 = .ok (.aload_n 0, 1) := by decide +kernel
theorem dX5_weigh_153 : decode cX5_weigh 153 = .ok (.getfield 24, 3) := by decide +kernel
theorem dX5_weigh_156 : decode cX5_weigh 156 = .ok (.iload 4, 2) := by decide +kernel
theorem dX5_weigh_158 : decode cX5_weigh 158 = .ok (.iconst 2, 1) := by decide +kernel
theorem dX5_weigh_159 : decode cX5_weigh 159 = .ok (.iadd, 1) := by decide +kernel
theorem dX5_weigh_160 : decode cX5_weigh 160 = .ok (.iaload, 1) := by decide +kernel
theorem dX5_weigh_161 : decode cX5_weigh 161 = .ok (.iload 6, 2) := by decide +kernel
theorem dX5_weigh_163 : decode cX5_weigh 163 = .ok (.iadd, 1) := by decide +kernel
theorem dX5_weigh_164 : decode cX5_weigh 164 = .ok (.iastore, 1) := by decide +kernel
theorem dX5_weigh_165 : decode cX5_weigh 165 = .ok (.iinc 4 (-1), 3) := by decide +kernel
theorem dX5_weigh_168 : decode cX5_weigh 168 = .ok (.goto (-152), 3) := by decide +kernel
theorem dX5_weigh_171 : decode cX5_weigh 171 = .ok (.aload_n 0, 1) := by decide +kernel
theorem dX5_weigh_172 : decode cX5_weigh 172 = .ok (.getfield 24, 3) := by decide +kernel
theorem dX5_weigh_175 : decode cX5_weigh 175 = .ok (.iconst 0, 1) := by decide +kernel
theorem dX5_weigh_176 : decode cX5_weigh 176 = .ok (.aload_n 0, 1) := by decide +kernel
theorem dX5_weigh_177 : decode cX5_weigh 177 = .ok (.getfield 24, 3) := by decide +kernel
theorem dX5_weigh_180 : decode cX5_weigh 180 = .ok (.iconst 1, 1) := by decide +kernel
theorem dX5_weigh_181 : decode cX5_weigh 181 = .ok (.iaload, 1) := by decide +kernel
theorem dX5_weigh_182 : decode cX5_weigh 182 = .ok (.iastore, 1) := by decide +kernel
theorem dX5_weigh_183 : decode cX5_weigh 183 = .ok (.return_, 1) := by decide +kernel
theorem dX5_layBest_0 : decode cX5_layBest 0 = .ok (.aload_n 0, 1) := by decide +kernel
theorem dX5_layBest_1 : decode cX5_layBest 1 = .ok (.getfield 18, 3) := by decide +kernel
theorem dX5_layBest_4 : decode cX5_layBest 4 = .ok (.iconst 0, 1) := by decide +kernel
theorem dX5_layBest_5 : decode cX5_layBest 5 = .ok (.aload_n 0, 1) := by decide +kernel
theorem dX5_layBest_6 : decode cX5_layBest 6 = .ok (.getfield 9, 3) := by decide +kernel
theorem dX5_layBest_9 : decode cX5_layBest 9 = .ok (.iconst 0, 1) := by decide +kernel
theorem dX5_layBest_10 : decode cX5_layBest 10 = .ok (.aload_n 0, 1) := by decide +kernel
theorem dX5_layBest_11 : decode cX5_layBest 11 = .ok (.getfield 37, 3) := by decide +kernel
theorem dX5_layBest_14 : decode cX5_layBest 14 = .ok (.invokestatic 113, 3) := by decide +kernel
theorem dX5_layBest_17 : decode cX5_layBest 17 = .ok (.return_, 1) := by decide +kernel
theorem dX5_digits_0 : decode cX5_digits 0 = .ok (.iconst 0, 1) := by decide +kernel
theorem dX5_digits_1 : decode cX5_digits 1 = .ok (.istore_n 1, 1) := by decide +kernel
theorem dX5_digits_2 : decode cX5_digits 2 = .ok (.iconst 0, 1) := by decide +kernel
theorem dX5_digits_3 : decode cX5_digits 3 = .ok (.istore_n 2, 1) := by decide +kernel
theorem dX5_digits_4 : decode cX5_digits 4 = .ok (.iload_n 2, 1) := by decide +kernel
theorem dX5_digits_5 : decode cX5_digits 5 = .ok (.aload_n 0, 1) := by decide +kernel
theorem dX5_digits_6 : decode cX5_digits 6 = .ok (.getfield 37, 3) := by decide +kernel
theorem dX5_digits_9 : decode cX5_digits 9 = .ok (.if_icmp .ge 23, 3) := by decide +kernel
theorem dX5_digits_12 : decode cX5_digits 12 = .ok (.iload_n 1, 1) := by decide +kernel
theorem dX5_digits_13 : decode cX5_digits 13 = .ok (.bipush 10, 2) := by decide +kernel
theorem dX5_digits_15 : decode cX5_digits 15 = .ok (.imul, 1) := by decide +kernel
theorem dX5_digits_16 : decode cX5_digits 16 = .ok (.aload_n 0, 1) := by decide +kernel
theorem dX5_digits_17 : decode cX5_digits 17 = .ok (.getfield 18, 3) := by decide +kernel
theorem dX5_digits_20 : decode cX5_digits 20 = .ok (.iload_n 2, 1) := by decide +kernel
theorem dX5_digits_21 : decode cX5_digits 21 = .ok (.iaload, 1) := by decide +kernel
theorem dX5_digits_22 : decode cX5_digits 22 = .ok (.iadd, 1) := by decide +kernel
theorem dX5_digits_23 : decode cX5_digits 23 = .ok (.iconst 1, 1) := by decide +kernel
theorem dX5_digits_24 : decode cX5_digits 24 = .ok (.iadd, 1) := by decide +kernel
theorem dX5_digits_25 : decode cX5_digits 25 = .ok (.istore_n 1, 1) := by decide +kernel
theorem dX5_digits_26 : decode cX5_digits 26 = .ok (.iinc 2 1, 3) := by decide +kernel
theorem dX5_digits_29 : decode cX5_digits 29 = .ok (.goto (-25), 3) := by decide +kernel
theorem dX5_digits_32 : decode cX5_digits 32 = .ok (.iload_n 1, 1) := by decide +kernel
theorem dX5_digits_33 : decode cX5_digits 33 = .ok (.ireturn, 1) := by decide +kernel
theorem dX6_init_0 : decode cX6_init 0 = .ok (.aload_n 0, 1) := by decide +kernel
theorem dX6_init_1 : decode cX6_init 1 = .ok (.invokespecial 3, 3) := by decide +kernel
theorem dX6_init_4 : decode cX6_init 4 = .ok (.aload_n 0, 1) := by decide +kernel
theorem dX6_init_5 : decode cX6_init 5 = .ok (.iconst (-1), 1) := by decide +kernel
theorem dX6_init_6 : decode cX6_init 6 = .ok (.putfield 9, 3) := by decide +kernel
theorem dX6_init_9 : decode cX6_init 9 = .ok (.aload_n 0, 1) := by decide +kernel
theorem dX6_init_10 : decode cX6_init 10 = .ok (.iconst 0, 1) := by decide +kernel
theorem dX6_init_11 : decode cX6_init 11 = .ok (.putfield 15, 3) := by decide +kernel
theorem dX6_init_14 : decode cX6_init 14 = .ok (.aload_n 0, 1) := by decide +kernel
theorem dX6_init_15 : decode cX6_init 15 = .ok (.bipush 40, 2) := by decide +kernel
theorem dX6_init_17 : decode cX6_init 17 = .ok (.newarray .int, 2) := by decide +kernel
theorem dX6_init_19 : decode cX6_init 19 = .ok (.putfield 18, 3) := by decide +kernel
theorem dX6_init_22 : decode cX6_init 22 = .ok (.return_, 1) := by decide +kernel
theorem dX6_become_0 : decode cX6_become 0 = .ok (.aload_n 0, 1) := by decide +kernel
theorem dX6_become_1 : decode cX6_become 1 = .ok (.iload_n 1, 1) := by decide +kernel
theorem dX6_become_2 : decode cX6_become 2 = .ok (.putfield 9, 3) := by decide +kernel
theorem dX6_become_5 : decode cX6_become 5 = .ok (.aload_n 0, 1) := by decide +kernel
theorem dX6_become_6 : decode cX6_become 6 = .ok (.iload_n 2, 1) := by decide +kernel
theorem dX6_become_7 : decode cX6_become 7 = .ok (.putfield 15, 3) := by decide +kernel
theorem dX6_become_10 : decode cX6_become 10 = .ok (.aload_n 0, 1) := by decide +kernel
theorem dX6_become_11 : decode cX6_become 11 = .ok (.getfield 18, 3) := by decide +kernel
theorem dX6_become_14 : decode cX6_become 14 = .ok (.iconst 0, 1) := by decide +kernel
theorem dX6_become_15 : decode cX6_become 15 = .ok (.invokestatic 22, 3) := by decide +kernel
theorem dX6_become_18 : decode cX6_become 18 = .ok (.return_, 1) := by decide +kernel
theorem dX6_hasItem_0 : decode cX6_hasItem 0 = .ok (.iload_n 1, 1) := by decide +kernel
theorem dX6_hasItem_1 : decode cX6_hasItem 1 = .ok (.ifCond .lt 15, 3) := by decide +kernel
theorem dX6_hasItem_4 : decode cX6_hasItem 4 = .ok (.iload_n 1, 1) := by decide +kernel
theorem dX6_hasItem_5 : decode cX6_hasItem 5 = .ok (.aload_n 0, 1) := by decide +kernel
theorem dX6_hasItem_6 : decode cX6_hasItem 6 = .ok (.getfield 15, 3) := by decide +kernel
theorem dX6_hasItem_9 : decode cX6_hasItem 9 = .ok (.if_icmp .ge 7, 3) := by decide +kernel
theorem dX6_hasItem_12 : decode cX6_hasItem 12 = .ok (.iconst 1, 1) := by decide +kernel
theorem dX6_hasItem_13 : decode cX6_hasItem 13 = .ok (.goto 4, 3) := by decide +kernel
theorem dX6_hasItem_16 : decode cX6_hasItem 16 = .ok (.iconst 0, 1) := by decide +kernel
theorem dX6_hasItem_17 : decode cX6_hasItem 17 = .ok (.ireturn, 1) := by decide +kernel
theorem dX6_hasItems_0 : decode cX6_hasItems 0 = .ok (.iload_n 1, 1) := by decide +kernel
theorem dX6_hasItems_1 : decode cX6_hasItems 1 = .ok (.ifCond .lt 29, 3) := by decide +kernel
theorem dX6_hasItems_4 : decode cX6_hasItems 4 = .ok (.iload_n 2, 1) := by decide +kernel
theorem dX6_hasItems_5 : decode cX6_hasItems 5 = .ok (.ifCond .lt 25, 3) := by decide +kernel
theorem dX6_hasItems_8 : decode cX6_hasItems 8 = .ok (.iload_n 1, 1) := by decide +kernel
theorem dX6_hasItems_9 : decode cX6_hasItems 9 = .ok (.aload_n 0, 1) := by decide +kernel
theorem dX6_hasItems_10 : decode cX6_hasItems 10 = .ok (.getfield 15, 3) := by decide +kernel
theorem dX6_hasItems_13 : decode cX6_hasItems 13 = .ok (.if_icmp .gt 17, 3) := by decide +kernel
theorem dX6_hasItems_16 : decode cX6_hasItems 16 = .ok (.iload_n 2, 1) := by decide +kernel
theorem dX6_hasItems_17 : decode cX6_hasItems 17 = .ok (.aload_n 0, 1) := by decide +kernel
theorem dX6_hasItems_18 : decode cX6_hasItems 18 = .ok (.getfield 15, 3) := by decide +kernel
theorem dX6_hasItems_21 : decode cX6_hasItems 21 = .ok (.iload_n 1, 1) := by decide +kernel
theorem dX6_hasItems_22 : decode cX6_hasItems 22 = .ok (.isub, 1) := by decide +kernel
theorem dX6_hasItems_23 : decode cX6_hasItems 23 = .ok (.if_icmp .gt 7, 3) := by decide +kernel
theorem dX6_hasItems_26 : decode cX6_hasItems 26 = .ok (.iconst 1, 1) := by decide +kernel
theorem dX6_hasItems_27 : decode cX6_hasItems 27 = .ok (.goto 4, 3) := by decide +kernel
theorem dX6_hasItems_30 : decode cX6_hasItems 30 = .ok (.iconst 0, 1) := by decide +kernel
theorem dX6_hasItems_31 : decode cX6_hasItems 31 = .ok (.ireturn, 1) := by decide +kernel
theorem dX6_put_0 : decode cX6_put 0 = .ok (.aload_n 0, 1) := by decide +kernel
theorem dX6_put_1 : decode cX6_put 1 = .ok (.getfield 18, 3) := by decide +kernel
theorem dX6_put_4 : decode cX6_put 4 = .ok (.iload_n 1, 1) := by decide +kernel
theorem dX6_put_5 : decode cX6_put 5 = .ok (.aload_n 0, 1) := by decide +kernel
theorem dX6_put_6 : decode cX6_put 6 = .ok (.getfield 9, 3) := by decide +kernel
theorem dX6_put_9 : decode cX6_put 9 = .ok (.ifCond .ne 8, 3) := by decide +kernel
theorem dX6_put_12 : decode cX6_put 12 = .ok (.iload_n 2, 1) := by decide +kernel
theorem dX6_put_13 : decode cX6_put 13 = .ok (.i2b, 1) := by decide +kernel
theorem dX6_put_14 : decode cX6_put 14 = .ok (.goto 17, 3) := by decide +kernel
theorem dX6_put_17 : decode cX6_put 17 = .ok (.aload_n 0, 1) := by decide +kernel
theorem dX6_put_18 : decode cX6_put 18 = .ok (.getfield 9, 3) := by decide +kernel
theorem dX6_put_21 : decode cX6_put 21 = .ok (.iconst 1, 1) := by decide +kernel
theorem dX6_put_22 : decode cX6_put 22 = .ok (.if_icmp .ne 8, 3) := by decide +kernel
theorem dX6_put_25 : decode cX6_put 25 = .ok (.iload_n 2, 1) := by decide +kernel
theorem dX6_put_26 : decode cX6_put 26 = .ok (.i2s, 1) := by decide +kernel
theorem dX6_put_27 : decode cX6_put 27 = .ok (.goto 4, 3) := by decide +kernel
theorem dX6_put_30 : decode cX6_put 30 = .ok (.iload_n 2, 1) := by decide +kernel
theorem dX6_put_31 : decode cX6_put 31 = .ok (.iastore, 1) := by decide +kernel
theorem dX6_put_32 : decode cX6_put 32 = .ok (.return_, 1) := by decide +kernel
theorem dX7_init_0 : decode cX7_init 0 = .ok (.aload_n 0, 1) := by decide +kernel
theorem dX7_init_1 : decode cX7_init 1 = .ok (.invokespecial 1, 3) := by decide +kernel
theorem dX7_init_4 : decode cX7_init 4 = .ok (.aload_n 0, 1) := by decide +kernel
theorem dX7_init_5 : decode cX7_init 5 = .ok (.new 7, 3) := by decide +kernel
theorem dX7_init_8 : decode cX7_init 8 = .ok (.dup, 1) := by decide +kernel
theorem dX7_init_9 : decode cX7_init 9 = .ok (.invokespecial 9, 3) := by decide +kernel
theorem dX7_init_12 : decode cX7_init 12 = .ok (.putfield 10, 3) := by decide +kernel
theorem dX7_init_15 : decode cX7_init 15 = .ok (.aload_n 0, 1) := by decide +kernel
theorem dX7_init_16 : decode cX7_init 16 = .ok (.new 7, 3) := by decide +kernel
theorem dX7_init_19 : decode cX7_init 19 = .ok (.dup, 1) := by decide +kernel
theorem dX7_init_20 : decode cX7_init 20 = .ok (.invokespecial 9, 3) := by decide +kernel
theorem dX7_init_23 : decode cX7_init 23 = .ok (.putfield 16, 3) := by decide +kernel
theorem dX7_init_26 : decode cX7_init 26 = .ok (.aload_n 0, 1) := by decide +kernel
theorem dX7_init_27 : decode cX7_init 27 = .ok (.new 7, 3) := by decide +kernel
theorem dX7_init_30 : decode cX7_init 30 = .ok (.dup, 1) := by decide +kernel
theorem dX7_init_31 : decode cX7_init 31 = .ok (.invokespecial 9, 3) := by decide +kernel
theorem dX7_init_34 : decode cX7_init 34 = .ok (.putfield 19, 3) := by decide +kernel
theorem dX7_init_37 : decode cX7_init 37 = .ok (.aload_n 0, 1) := by decide +kernel
theorem dX7_init_38 : decode cX7_init 38 = .ok (.new 22, 3) := by decide +kernel
theorem dX7_init_41 : decode cX7_init 41 = .ok (.dup, 1) := by decide +kernel
theorem dX7_init_42 : decode cX7_init 42 = .ok (.invokespecial 24, 3) := by decide +kernel
theorem dX7_init_45 : decode cX7_init 45 = .ok (.putfield 25, 3) := by decide +kernel
theorem dX7_init_48 : decode cX7_init 48 = .ok (.aload_n 0, 1) := by decide +kernel
theorem dX7_init_49 : decode cX7_init 49 = .ok (.new 29, 3) := by decide +kernel
theorem dX7_init_52 : decode cX7_init 52 = .ok (.dup, 1) := by decide +kernel
theorem dX7_init_53 : decode cX7_init 53 = .ok (.invokespecial 31, 3) := by decide +kernel
theorem dX7_init_56 : decode cX7_init 56 = .ok (.putfield 32, 3) := by decide +kernel
theorem dX7_init_59 : decode cX7_init 59 = .ok (.aload_n 0, 1) := by decide +kernel
theorem dX7_init_60 : decode cX7_init 60 = .ok (.new 36, 3) := by decide +kernel
theorem dX7_init_63 : decode cX7_init 63 = .ok (.dup, 1) := by decide +kernel
theorem dX7_init_64 : decode cX7_init 64 = .ok (.invokespecial 38, 3) := by decide +kernel
theorem dX7_init_67 : decode cX7_init 67 = .ok (.putfield 39, 3) := by decide +kernel
theorem dX7_init_70 : decode cX7_init 70 = .ok (.aload_n 0, 1) := by decide +kernel
theorem dX7_init_71 : decode cX7_init 71 = .ok (.iconst 4, 1) := by decide +kernel
theorem dX7_init_72 : decode cX7_init 72 = .ok (.anewarray 43, 3) := by decide +kernel
theorem dX7_init_75 : decode cX7_init 75 = .ok (.putfield 45, 3) := by decide +kernel
theorem dX7_init_78 : decode cX7_init 78 = .ok (.aload_n 0, 1) := by decide +kernel
theorem dX7_init_79 : decode cX7_init 79 = .ok (.iconst 1, 1) := by decide +kernel
theorem dX7_init_80 : decode cX7_init 80 = .ok (.putfield 49, 3) := by decide +kernel
theorem dX7_init_83 : decode cX7_init 83 = .ok (.aload_n 0, 1) := by decide +kernel
theorem dX7_init_84 : decode cX7_init 84 = .ok (.iconst 0, 1) := by decide +kernel
theorem dX7_init_85 : decode cX7_init 85 = .ok (.putfield 53, 3) := by decide +kernel
theorem dX7_init_88 : decode cX7_init 88 = .ok (.iconst 0, 1) := by decide +kernel
theorem dX7_init_89 : decode cX7_init 89 = .ok (.istore_n 1, 1) := by decide +kernel
theorem dX7_init_90 : decode cX7_init 90 = .ok (.iload_n 1, 1) := by decide +kernel
theorem dX7_init_91 : decode cX7_init 91 = .ok (.iconst 4, 1) := by decide +kernel
theorem dX7_init_92 : decode cX7_init 92 = .ok (.if_icmp .ge 22, 3) := by decide +kernel
theorem dX7_init_95 : decode cX7_init 95 = .ok (.aload_n 0, 1) := by decide +kernel
theorem dX7_init_96 : decode cX7_init 96 = .ok (.getfield 45, 3) := by decide +kernel
theorem dX7_init_99 : decode cX7_init 99 = .ok (.iload_n 1, 1) := by decide +kernel
theorem dX7_init_100 : decode cX7_init 100 = .ok (.new 43, 3) := by decide +kernel
theorem dX7_init_103 : decode cX7_init 103 = .ok (.dup, 1) := by decide +kernel
theorem dX7_init_104 : decode cX7_init 104 = .ok (.invokespecial 57, 3) := by decide +kernel
theorem dX7_init_107 : decode cX7_init 107 = .ok (.aastore, 1) := by decide +kernel
theorem dX7_init_108 : decode cX7_init 108 = .ok (.iinc 1 1, 3) := by decide +kernel
theorem dX7_init_111 : decode cX7_init 111 = .ok (.goto (-21), 3) := by decide +kernel
theorem dX7_init_114 : decode cX7_init 114 = .ok (.return_, 1) := by decide +kernel
theorem dX7_set_0 : decode cX7_set 0 = .ok (.iload_n 1, 1) := by decide +kernel
theorem dX7_set_1 : decode cX7_set 1 = .ok (.tableswitch 57 0 3 #[31, 37, 43, 50], 31) := by decide +kernel
theorem dX7_set_32 : decode cX7_set 32 = .ok (.aload_n 0, 1) := by decide +kernel
theorem dX7_set_33 : decode cX7_set 33 = .ok (.iload_n 3, 1) := by decide +kernel
theorem dX7_set_34 : decode cX7_set 34 = .ok (.invokevirtual 58, 3) := by decide +kernel
theorem dX7_set_37 : decode cX7_set 37 = .ok (.ireturn, 1) := by decide +kernel
theorem dX7_set_38 : decode cX7_set 38 = .ok (.aload_n 0, 1) := by decide +kernel
theorem dX7_set_39 : decode cX7_set 39 = .ok (.iload_n 3, 1) := by decide +kernel
theorem dX7_set_40 : decode cX7_set 40 = .ok (.invokevirtual 62, 3) := by decide +kernel
theorem dX7_set_43 : decode cX7_set 43 = .ok (.ireturn, 1) := by decide +kernel
theorem dX7_set_44 : decode cX7_set 44 = .ok (.aload_n 0, 1) := by decide +kernel
theorem dX7_set_45 : decode cX7_set 45 = .ok (.iload_n 2, 1) := by decide +kernel
theorem dX7_set_46 : decode cX7_set 46 = .ok (.iload_n 3, 1) := by decide +kernel
theorem dX7_set_47 : decode cX7_set 47 = .ok (.invokevirtual 65, 3) := by decide +kernel
theorem dX7_set_50 : decode cX7_set 50 = .ok (.ireturn, 1) := by decide +kernel
theorem dX7_set_51 : decode cX7_set 51 = .ok (.aload_n 0, 1) := by decide +kernel
theorem dX7_set_52 : decode cX7_set 52 = .ok (.iload_n 2, 1) := by decide +kernel
theorem dX7_set_53 : decode cX7_set 53 = .ok (.iload_n 3, 1) := by decide +kernel
theorem dX7_set_54 : decode cX7_set 54 = .ok (.invokevirtual 69, 3) := by decide +kernel
theorem dX7_set_57 : decode cX7_set 57 = .ok (.ireturn, 1) := by decide +kernel
theorem dX7_set_58 : decode cX7_set 58 = .ok (.bipush (-2), 2) := by decide +kernel
theorem dX7_set_60 : decode cX7_set 60 = .ok (.ireturn, 1) := by decide +kernel
theorem dX7_setRound_0 : decode cX7_setRound 0 = .ok (.iload_n 1, 1) := by decide +kernel
theorem dX7_setRound_1 : decode cX7_setRound 1 = .ok (.iconst 0, 1) := by decide +kernel
theorem dX7_setRound_2 : decode cX7_setRound 2 = .ok (.iconst 1, 1) := by decide +kernel
theorem dX7_setRound_3 : decode cX7_setRound 3 = .ok (.invokestatic 72, 3) := by decide +kernel
theorem dX7_setRound_6 : decode cX7_setRound 6 = .ok (.ifCond .ne 6, 3) := by decide +kernel
theorem dX7_setRound_9 : decode cX7_setRound 9 = .ok (.bipush (-2), 2) := by decide +kernel
theorem dX7_setRound_11 : decode cX7_setRound 11 = .ok (.ireturn, 1) := by decide +kernel
theorem dX7_setRound_12 : decode cX7_setRound 12 = .ok (.aload_n 0, 1) := by decide +kernel
theorem dX7_setRound_13 : decode cX7_setRound 13 = .ok (.getfield 10, 3) := by decide +kernel
theorem dX7_setRound_16 : decode cX7_setRound 16 = .ok (.getfield 76, 3) := by decide +kernel
theorem dX7_setRound_19 : decode cX7_setRound 19 = .ok (.istore_n 2, 1) := by decide +kernel
theorem dX7_setRound_20 : decode cX7_setRound 20 = .ok (.aload_n 0, 1) := by decide +kernel
theorem dX7_setRound_21 : decode cX7_setRound 21 = .ok (.getfield 10, 3) := by decide +kernel
theorem dX7_setRound_24 : decode cX7_setRound 24 = .ok (.iload_n 1, 1) := by decide +kernel
theorem dX7_setRound_25 : decode cX7_setRound 25 = .ok (.putfield 76, 3) := by decide +kernel
theorem dX7_setRound_28 : decode cX7_setRound 28 = .ok (.iload_n 2, 1) := by decide +kernel
theorem dX7_setRound_29 : decode cX7_setRound 29 = .ok (.ireturn, 1) := by decide +kernel
theorem dX7_setDinners_0 : decode cX7_setDinners 0 = .ok (.iload_n 1, 1) := by decide +kernel
theorem dX7_setDinners_1 : decode cX7_setDinners 1 = .ok (.iconst 0, 1) := by decide +kernel
theorem dX7_setDinners_2 : decode cX7_setDinners 2 = .ok (.sipush 999, 3) := by decide +kernel
theorem dX7_setDinners_5 : decode cX7_setDinners 5 = .ok (.invokestatic 72, 3) := by decide +kernel
theorem dX7_setDinners_8 : decode cX7_setDinners 8 = .ok (.ifCond .ne 6, 3) := by decide +kernel
theorem dX7_setDinners_11 : decode cX7_setDinners 11 = .ok (.bipush (-2), 2) := by decide +kernel
theorem dX7_setDinners_13 : decode cX7_setDinners 13 = .ok (.ireturn, 1) := by decide +kernel
theorem dX7_setDinners_14 : decode cX7_setDinners 14 = .ok (.aload_n 0, 1) := by decide +kernel
theorem dX7_setDinners_15 : decode cX7_setDinners 15 = .ok (.getfield 10, 3) := by decide +kernel
theorem dX7_setDinners_18 : decode cX7_setDinners 18 = .ok (.getfield 79, 3) := by decide +kernel
theorem dX7_setDinners_21 : decode cX7_setDinners 21 = .ok (.istore_n 2, 1) := by decide +kernel
theorem dX7_setDinners_22 : decode cX7_setDinners 22 = .ok (.aload_n 0, 1) := by decide +kernel
theorem dX7_setDinners_23 : decode cX7_setDinners 23 = .ok (.getfield 10, 3) := by decide +kernel
theorem dX7_setDinners_26 : decode cX7_setDinners 26 = .ok (.iload_n 1, 1) := by decide +kernel
theorem dX7_setDinners_27 : decode cX7_setDinners 27 = .ok (.putfield 79, 3) := by decide +kernel
theorem dX7_setDinners_30 : decode cX7_setDinners 30 = .ok (.iload_n 2, 1) := by decide +kernel
theorem dX7_setDinners_31 : decode cX7_setDinners 31 = .ok (.ireturn, 1) := by decide +kernel
theorem dX7_setNumber_0 : decode cX7_setNumber 0 = .ok (.aload_n 0, 1) := by decide +kernel
theorem dX7_setNumber_1 : decode cX7_setNumber 1 = .ok (.getfield 10, 3) := by decide +kernel
theorem dX7_setNumber_4 : decode cX7_setNumber 4 = .ok (.iload_n 1, 1) := by decide +kernel
theorem dX7_setNumber_5 : decode cX7_setNumber 5 = .ok (.invokevirtual 82, 3) := by decide +kernel
theorem dX7_setNumber_8 : decode cX7_setNumber 8 = .ok (.ifCond .eq 13, 3) := by decide +kernel
theorem dX7_setNumber_11 : decode cX7_setNumber 11 = .ok (.iload_n 2, 1) := by decide +kernel
theorem dX7_setNumber_12 : decode cX7_setNumber 12 = .ok (.iconst 0, 1) := by decide +kernel
theorem dX7_setNumber_13 : decode cX7_setNumber 13 = .ok (.bipush 9, 2) := by decide +kernel
theorem dX7_setNumber_15 : decode cX7_setNumber 15 = .ok (.invokestatic 72, 3) := by decide +kernel
theorem dX7_setNumber_18 : decode cX7_setNumber 18 = .ok (.ifCond .ne 6, 3) := by decide +kernel
theorem dX7_setNumber_21 : decode cX7_setNumber 21 = .ok (.bipush (-2), 2) := by decide +kernel
theorem dX7_setNumber_23 : decode cX7_setNumber 23 = .ok (.ireturn, 1) := by decide +kernel
theorem dX7_setNumber_24 : decode cX7_setNumber 24 = .ok (.aload_n 0, 1) := by decide +kernel
theorem dX7_setNumber_25 : decode cX7_setNumber 25 = .ok (.getfield 10, 3) := by decide +kernel
theorem dX7_setNumber_28 : decode cX7_setNumber 28 = .ok (.getfield 86, 3) := by decide +kernel
theorem dX7_setNumber_31 : decode cX7_setNumber 31 = .ok (.iload_n 1, 1) := by decide +kernel
theorem dX7_setNumber_32 : decode cX7_setNumber 32 = .ok (.iaload, 1) := by decide +kernel
theorem dX7_setNumber_33 : decode cX7_setNumber 33 = .ok (.istore_n 3, 1) := by decide +kernel
theorem dX7_setNumber_34 : decode cX7_setNumber 34 = .ok (.aload_n 0, 1) := by decide +kernel
theorem dX7_setNumber_35 : decode cX7_setNumber 35 = .ok (.getfield 10, 3) := by decide +kernel
theorem dX7_setNumber_38 : decode cX7_setNumber 38 = .ok (.getfield 86, 3) := by decide +kernel
theorem dX7_setNumber_41 : decode cX7_setNumber 41 = .ok (.iload_n 1, 1) := by decide +kernel
theorem dX7_setNumber_42 : decode cX7_setNumber 42 = .ok (.iload_n 2, 1) := by decide +kernel
theorem dX7_setNumber_43 : decode cX7_setNumber 43 = .ok (.iastore, 1) := by decide +kernel
theorem dX7_setNumber_44 : decode cX7_setNumber 44 = .ok (.iload_n 3, 1) := by decide +kernel
theorem dX7_setNumber_45 : decode cX7_setNumber 45 = .ok (.ireturn, 1) := by decide +kernel
theorem dX7_setWanted_0 : decode cX7_setWanted 0 = .ok (.aload_n 0, 1) := by decide +kernel
theorem dX7_setWanted_1 : decode cX7_setWanted 1 = .ok (.getfield 10, 3) := by decide +kernel
theorem dX7_setWanted_4 : decode cX7_setWanted 4 = .ok (.iload_n 1, 1) := by decide +kernel
theorem dX7_setWanted_5 : decode cX7_setWanted 5 = .ok (.invokevirtual 82, 3) := by decide +kernel
theorem dX7_setWanted_8 : decode cX7_setWanted 8 = .ok (.ifCond .eq 24, 3) := by decide +kernel
theorem dX7_setWanted_11 : decode cX7_setWanted 11 = .ok (.iload_n 2, 1) := by decide +kernel
theorem dX7_setWanted_12 : decode cX7_setWanted 12 = .ok (.iconst (-1), 1) := by decide +kernel
theorem dX7_setWanted_13 : decode cX7_setWanted 13 = .ok (.if_icmp .eq 14, 3) := by decide +kernel
theorem dX7_setWanted_16 : decode cX7_setWanted 16 = .ok (.aload_n 0, 1) := by decide +kernel
theorem dX7_setWanted_17 : decode cX7_setWanted 17 = .ok (.getfield 10, 3) := by decide +kernel
theorem dX7_setWanted_20 : decode cX7_setWanted 20 = .ok (.iload_n 2, 1) := by decide +kernel
theorem dX7_setWanted_21 : decode cX7_setWanted 21 = .ok (.invokevirtual 82, 3) := by decide +kernel
theorem dX7_setWanted_24 : decode cX7_setWanted 24 = .ok (.ifCond .eq 8, 3) := by decide +kernel
theorem dX7_setWanted_27 : decode cX7_setWanted 27 = .ok (.iload_n 2, 1) := by decide +kernel
theorem dX7_setWanted_28 : decode cX7_setWanted 28 = .ok (.iload_n 1, 1) := by decide +kernel
theorem dX7_setWanted_29 : decode cX7_setWanted 29 = .ok (.if_icmp .ne 6, 3) := by decide +kernel
theorem dX7_setWanted_32 : decode cX7_setWanted 32 = .ok (.bipush (-2), 2) := by decide +kernel
theorem dX7_setWanted_34 : decode cX7_setWanted 34 = .ok (.ireturn, 1) := by decide +kernel
theorem dX7_setWanted_35 : decode cX7_setWanted 35 = .ok (.aload_n 0, 1) := by decide +kernel
theorem dX7_setWanted_36 : decode cX7_setWanted 36 = .ok (.getfield 10, 3) := by decide +kernel
theorem dX7_setWanted_39 : decode cX7_setWanted 39 = .ok (.getfield 90, 3) := by decide +kernel
theorem dX7_setWanted_42 : decode cX7_setWanted 42 = .ok (.iload_n 1, 1) := by decide +kernel
theorem dX7_setWanted_43 : decode cX7_setWanted 43 = .ok (.iaload, 1) := by decide +kernel
theorem dX7_setWanted_44 : decode cX7_setWanted 44 = .ok (.istore_n 3, 1) := by decide +kernel
theorem dX7_setWanted_45 : decode cX7_setWanted 45 = .ok (.aload_n 0, 1) := by decide +kernel
theorem dX7_setWanted_46 : decode cX7_setWanted 46 = .ok (.getfield 10, 3) := by decide +kernel
theorem dX7_setWanted_49 : decode cX7_setWanted 49 = .ok (.getfield 90, 3) := by decide +kernel
theorem dX7_setWanted_52 : decode cX7_setWanted 52 = .ok (.iload_n 1, 1) := by decide +kernel
theorem dX7_setWanted_53 : decode cX7_setWanted 53 = .ok (.iload_n 2, 1) := by decide +kernel
theorem dX7_setWanted_54 : decode cX7_setWanted 54 = .ok (.iastore, 1) := by decide +kernel
theorem dX7_setWanted_55 : decode cX7_setWanted 55 = .ok (.iload_n 3, 1) := by decide +kernel
theorem dX7_setWanted_56 : decode cX7_setWanted 56 = .ok (.ireturn, 1) := by decide +kernel
theorem dX7_guest_0 : decode cX7_guest 0 = .ok (.iload_n 1, 1) := by decide +kernel
theorem dX7_guest_1 : decode cX7_guest 1 = .ok (.invokestatic 93, 3) := by decide +kernel
theorem dX7_guest_4 : decode cX7_guest 4 = .ok (.ifCond .eq 13, 3) := by decide +kernel
theorem dX7_guest_7 : decode cX7_guest 7 = .ok (.iload_n 2, 1) := by decide +kernel
theorem dX7_guest_8 : decode cX7_guest 8 = .ok (.iconst 0, 1) := by decide +kernel
theorem dX7_guest_9 : decode cX7_guest 9 = .ok (.bipush 9, 2) := by decide +kernel
theorem dX7_guest_11 : decode cX7_guest 11 = .ok (.invokestatic 72, 3) := by decide +kernel
theorem dX7_guest_14 : decode cX7_guest 14 = .ok (.ifCond .ne 6, 3) := by decide +kernel
theorem dX7_guest_17 : decode cX7_guest 17 = .ok (.bipush (-2), 2) := by decide +kernel
theorem dX7_guest_19 : decode cX7_guest 19 = .ok (.ireturn, 1) := by decide +kernel
theorem dX7_guest_20 : decode cX7_guest 20 = .ok (.aload_n 0, 1) := by decide +kernel
theorem dX7_guest_21 : decode cX7_guest 21 = .ok (.getfield 10, 3) := by decide +kernel
theorem dX7_guest_24 : decode cX7_guest 24 = .ok (.getfield 98, 3) := by decide +kernel
theorem dX7_guest_27 : decode cX7_guest 27 = .ok (.bipush 7, 2) := by decide +kernel
theorem dX7_guest_29 : decode cX7_guest 29 = .ok (.if_icmp .lt 8, 3) := by decide +kernel
theorem dX7_guest_32 : decode cX7_guest 32 = .ok (.bipush (-4), 2) := by decide +kernel
theorem dX7_guest_34 : decode cX7_guest 34 = .ok (.goto 12, 3) := by decide +kernel
theorem dX7_guest_37 : decode cX7_guest 37 = .ok (.aload_n 0, 1) := by decide +kernel
theorem dX7_guest_38 : decode cX7_guest 38 = .ok (.getfield 10, 3) := by decide +kernel
theorem dX7_guest_41 : decode cX7_guest 41 = .ok (.iload_n 1, 1) := by decide +kernel
theorem dX7_guest_42 : decode cX7_guest 42 = .ok (.iload_n 2, 1) := by decide +kernel
theorem dX7_guest_43 : decode cX7_guest 43 = .ok (.invokevirtual 101, 3) := by decide +kernel
theorem dX7_guest_46 : decode cX7_guest 46 = .ok (.ireturn, 1) := by decide +kernel
theorem dX7_owe_0 : decode cX7_owe 0 = .ok (.aload_n 0, 1) := by decide +kernel
theorem dX7_owe_1 : decode cX7_owe 1 = .ok (.getfield 10, 3) := by decide +kernel
theorem dX7_owe_4 : decode cX7_owe 4 = .ok (.iload_n 1, 1) := by decide +kernel
theorem dX7_owe_5 : decode cX7_owe 5 = .ok (.iload_n 2, 1) := by decide +kernel
theorem dX7_owe_6 : decode cX7_owe 6 = .ok (.invokevirtual 104, 3) := by decide +kernel
theorem dX7_owe_9 : decode cX7_owe 9 = .ok (.ifCond .eq 14, 3) := by decide +kernel
theorem dX7_owe_12 : decode cX7_owe 12 = .ok (.iload_n 3, 1) := by decide +kernel
theorem dX7_owe_13 : decode cX7_owe 13 = .ok (.iconst 0, 1) := by decide +kernel
theorem dX7_owe_14 : decode cX7_owe 14 = .ok (.sipush 999, 3) := by decide +kernel
theorem dX7_owe_17 : decode cX7_owe 17 = .ok (.invokestatic 72, 3) := by decide +kernel
theorem dX7_owe_20 : decode cX7_owe 20 = .ok (.ifCond .ne 6, 3) := by decide +kernel
theorem dX7_owe_23 : decode cX7_owe 23 = .ok (.bipush (-2), 2) := by decide +kernel
theorem dX7_owe_25 : decode cX7_owe 25 = .ok (.ireturn, 1) := by decide +kernel
theorem dX7_owe_26 : decode cX7_owe 26 = .ok (.aload_n 0, 1) := by decide +kernel
theorem dX7_owe_27 : decode cX7_owe 27 = .ok (.getfield 10, 3) := by decide +kernel
theorem dX7_owe_30 : decode cX7_owe 30 = .ok (.iload_n 1, 1) := by decide +kernel
theorem dX7_owe_31 : decode cX7_owe 31 = .ok (.iload_n 2, 1) := by decide +kernel
theorem dX7_owe_32 : decode cX7_owe 32 = .ok (.invokevirtual 108, 3) := by decide +kernel
theorem dX7_owe_35 : decode cX7_owe 35 = .ok (.istore 4, 2) := by decide +kernel
theorem dX7_owe_37 : decode cX7_owe 37 = .ok (.aload_n 0, 1) := by decide +kernel
theorem dX7_owe_38 : decode cX7_owe 38 = .ok (.getfield 10, 3) := by decide +kernel
theorem dX7_owe_41 : decode cX7_owe 41 = .ok (.iload_n 1, 1) := by decide +kernel
theorem dX7_owe_42 : decode cX7_owe 42 = .ok (.iload_n 2, 1) := by decide +kernel
theorem dX7_owe_43 : decode cX7_owe 43 = .ok (.iload_n 3, 1) := by decide +kernel
theorem dX7_owe_44 : decode cX7_owe 44 = .ok (.invokevirtual 111, 3) := by decide +kernel
theorem dX7_owe_47 : decode cX7_owe 47 = .ok (.iload 4, 2) := by decide +kernel
theorem dX7_owe_49 : decode cX7_owe 49 = .ok (.ireturn, 1) := by decide +kernel
theorem dX7_told_0 : decode cX7_told 0 = .ok (.iload_n 2, 1) := by decide +kernel
theorem dX7_told_1 : decode cX7_told 1 = .ok (.ifCond .ne 11, 3) := by decide +kernel
theorem dX7_told_4 : decode cX7_told 4 = .ok (.aload_n 0, 1) := by decide +kernel
theorem dX7_told_5 : decode cX7_told 5 = .ok (.getfield 10, 3) := by decide +kernel
theorem dX7_told_8 : decode cX7_told 8 = .ok (.getfield 76, 3) := by decide +kernel
theorem dX7_told_11 : decode cX7_told 11 = .ok (.ireturn, 1) := by decide +kernel
theorem dX7_told_12 : decode cX7_told 12 = .ok (.iload_n 2, 1) := by decide +kernel
theorem dX7_told_13 : decode cX7_told 13 = .ok (.iconst 1, 1) := by decide +kernel
theorem dX7_told_14 : decode cX7_told 14 = .ok (.if_icmp .ne 11, 3) := by decide +kernel
theorem dX7_told_17 : decode cX7_told 17 = .ok (.aload_n 0, 1) := by decide +kernel
theorem dX7_told_18 : decode cX7_told 18 = .ok (.getfield 10, 3) := by decide +kernel
theorem dX7_told_21 : decode cX7_told 21 = .ok (.getfield 79, 3) := by decide +kernel
theorem dX7_told_24 : decode cX7_told 24 = .ok (.ireturn, 1) := by decide +kernel
theorem dX7_told_25 : decode cX7_told 25 = .ok (.aload_n 0, 1) := by decide +kernel
theorem dX7_told_26 : decode cX7_told 26 = .ok (.getfield 10, 3) := by decide +kernel
theorem dX7_told_29 : decode cX7_told 29 = .ok (.iload_n 1, 1) := by decide +kernel
theorem dX7_told_30 : decode cX7_told 30 = .ok (.invokevirtual 82, 3) := by decide +kernel
theorem dX7_told_33 : decode cX7_told 33 = .ok (.ifCond .eq 12, 3) := by decide +kernel
theorem dX7_told_36 : decode cX7_told 36 = .ok (.aload_n 0, 1) := by decide +kernel
theorem dX7_told_37 : decode cX7_told 37 = .ok (.iload_n 1, 1) := by decide +kernel
theorem dX7_told_38 : decode cX7_told 38 = .ok (.iload_n 2, 1) := by decide +kernel
theorem dX7_told_39 : decode cX7_told 39 = .ok (.invokevirtual 115, 3) := by decide +kernel
theorem dX7_told_42 : decode cX7_told 42 = .ok (.goto 5, 3) := by decide +kernel
theorem dX7_told_45 : decode cX7_told 45 = .ok (.bipush (-2), 2) := by decide +kernel
theorem dX7_told_47 : decode cX7_told 47 = .ok (.ireturn, 1) := by decide +kernel
theorem dX7_toldOfOne_0 : decode cX7_toldOfOne 0 = .ok (.iload_n 2, 1) := by decide +kernel
theorem dX7_toldOfOne_1 : decode cX7_toldOfOne 1 = .ok (.tableswitch 119 2 7 #[39, 49, 59, 69, 85, 110], 39) := by decide +kernel
theorem dX7_toldOfOne_40 : decode cX7_toldOfOne 40 = .ok (.aload_n 0, 1) := by decide +kernel
theorem dX7_toldOfOne_41 : decode cX7_toldOfOne 41 = .ok (.getfield 10, 3) := by decide +kernel
theorem dX7_toldOfOne_44 : decode cX7_toldOfOne 44 = .ok (.getfield 86, 3) := by decide +kernel
theorem dX7_toldOfOne_47 : decode cX7_toldOfOne 47 = .ok (.iload_n 1, 1) := by decide +kernel
theorem dX7_toldOfOne_48 : decode cX7_toldOfOne 48 = .ok (.iaload, 1) := by decide +kernel
theorem dX7_toldOfOne_49 : decode cX7_toldOfOne 49 = .ok (.ireturn, 1) := by decide +kernel
theorem dX7_toldOfOne_50 : decode cX7_toldOfOne 50 = .ok (.aload_n 0, 1) := by decide +kernel
theorem dX7_toldOfOne_51 : decode cX7_toldOfOne 51 = .ok (.getfield 10, 3) := by decide +kernel
theorem dX7_toldOfOne_54 : decode cX7_toldOfOne 54 = .ok (.getfield 90, 3) := by decide +kernel
theorem dX7_toldOfOne_57 : decode cX7_toldOfOne 57 = .ok (.iload_n 1, 1) := by decide +kernel
theorem dX7_toldOfOne_58 : decode cX7_toldOfOne 58 = .ok (.iaload, 1) := by decide +kernel
theorem dX7_toldOfOne_59 : decode cX7_toldOfOne 59 = .ok (.ireturn, 1) := by decide +kernel
theorem dX7_toldOfOne_60 : decode cX7_toldOfOne 60 = .ok (.aload_n 0, 1) := by decide +kernel
theorem dX7_toldOfOne_61 : decode cX7_toldOfOne 61 = .ok (.getfield 10, 3) := by decide +kernel
theorem dX7_toldOfOne_64 : decode cX7_toldOfOne 64 = .ok (.getfield 118, 3) := by decide +kernel
theorem dX7_toldOfOne_67 : decode cX7_toldOfOne 67 = .ok (.iload_n 1, 1) := by decide +kernel
theorem dX7_toldOfOne_68 : decode cX7_toldOfOne 68 = .ok (.iaload, 1) := by decide +kernel
theorem dX7_toldOfOne_69 : decode cX7_toldOfOne 69 = .ok (.ireturn, 1) := by decide +kernel
theorem dX7_toldOfOne_70 : decode cX7_toldOfOne 70 = .ok (.aload_n 0, 1) := by decide +kernel
theorem dX7_toldOfOne_71 : decode cX7_toldOfOne 71 = .ok (.getfield 10, 3) := by decide +kernel
theorem dX7_toldOfOne_74 : decode cX7_toldOfOne 74 = .ok (.iload_n 1, 1) := by decide +kernel
theorem dX7_toldOfOne_75 : decode cX7_toldOfOne 75 = .ok (.aload_n 0, 1) := by decide +kernel
theorem dX7_toldOfOne_76 : decode cX7_toldOfOne 76 = .ok (.getfield 10, 3) := by decide +kernel
theorem dX7_toldOfOne_79 : decode cX7_toldOfOne 79 = .ok (.invokevirtual 121, 3) := by decide +kernel
theorem dX7_toldOfOne_82 : decode cX7_toldOfOne 82 = .ok (.invokevirtual 125, 3) := by decide +kernel
theorem dX7_toldOfOne_85 : decode cX7_toldOfOne 85 = .ok (.ireturn, 1) := by decide +kernel
theorem dX7_toldOfOne_86 : decode cX7_toldOfOne 86 = .ok (.aload_n 0, 1) := by decide +kernel
theorem dX7_toldOfOne_87 : decode cX7_toldOfOne 87 = .ok (.getfield 10, 3) := by decide +kernel
theorem dX7_toldOfOne_90 : decode cX7_toldOfOne 90 = .ok (.iload_n 1, 1) := by decide +kernel
theorem dX7_toldOfOne_91 : decode cX7_toldOfOne 91 = .ok (.aload_n 0, 1) := by decide +kernel
theorem dX7_toldOfOne_92 : decode cX7_toldOfOne 92 = .ok (.getfield 10, 3) := by decide +kernel
theorem dX7_toldOfOne_95 : decode cX7_toldOfOne 95 = .ok (.invokevirtual 121, 3) := by decide +kernel
theorem dX7_toldOfOne_98 : decode cX7_toldOfOne 98 = .ok (.invokevirtual 128, 3) := by decide +kernel
theorem dX7_toldOfOne_101 : decode cX7_toldOfOne 101 = .ok (.iconst (-1), 1) := by decide +kernel
theorem dX7_toldOfOne_102 : decode cX7_toldOfOne 102 = .ok (.if_icmp .ne 7, 3) := by decide +kernel
theorem dX7_toldOfOne_105 : decode cX7_toldOfOne 105 = .ok (.iconst 0, 1) := by decide +kernel
theorem dX7_toldOfOne_106 : decode cX7_toldOfOne 106 = .ok (.goto 4, 3) := by decide +kernel
theorem dX7_toldOfOne_109 : decode cX7_toldOfOne 109 = .ok (.iconst 1, 1) := by decide +kernel
theorem dX7_toldOfOne_110 : decode cX7_toldOfOne 110 = .ok (.ireturn, 1) := by decide +kernel
theorem dX7_toldOfOne_111 : decode cX7_toldOfOne 111 = .ok (.aload_n 0, 1) := by decide +kernel
theorem dX7_toldOfOne_112 : decode cX7_toldOfOne 112 = .ok (.getfield 10, 3) := by decide +kernel
theorem dX7_toldOfOne_115 : decode cX7_toldOfOne 115 = .ok (.iload_n 1, 1) := by decide +kernel
theorem dX7_toldOfOne_116 : decode cX7_toldOfOne 116 = .ok (.invokevirtual 131, 3) := by decide +kernel
theorem dX7_toldOfOne_119 : decode cX7_toldOfOne 119 = .ok (.ireturn, 1) := by decide +kernel
theorem dX7_toldOfOne_120 : decode cX7_toldOfOne 120 = .ok (.iload_n 2, 1) := by decide +kernel
theorem dX7_toldOfOne_121 : decode cX7_toldOfOne 121 = .ok (.bipush 10, 2) := by decide +kernel
theorem dX7_toldOfOne_123 : decode cX7_toldOfOne 123 = .ok (.bipush 16, 2) := by decide +kernel
theorem dX7_toldOfOne_125 : decode cX7_toldOfOne 125 = .ok (.invokestatic 72, 3) := by decide +kernel
theorem dX7_toldOfOne_128 : decode cX7_toldOfOne 128 = .ok (.ifCond .eq 32, 3) := by decide +kernel
theorem dX7_toldOfOne_131 : decode cX7_toldOfOne 131 = .ok (.aload_n 0, 1) := by decide +kernel
theorem dX7_toldOfOne_132 : decode cX7_toldOfOne 132 = .ok (.getfield 10, 3) := by decide +kernel
theorem dX7_toldOfOne_135 : decode cX7_toldOfOne 135 = .ok (.iload_n 2, 1) := by decide +kernel
theorem dX7_toldOfOne_136 : decode cX7_toldOfOne 136 = .ok (.bipush 10, 2) := by decide +kernel
theorem dX7_toldOfOne_138 : decode cX7_toldOfOne 138 = .ok (.isub, 1) := by decide +kernel
theorem dX7_toldOfOne_139 : decode cX7_toldOfOne 139 = .ok (.invokevirtual 82, 3) := by decide +kernel
theorem dX7_toldOfOne_142 : decode cX7_toldOfOne 142 = .ok (.ifCond .eq 18, 3) := by decide +kernel
theorem dX7_toldOfOne_145 : decode cX7_toldOfOne 145 = .ok (.aload_n 0, 1) := by decide +kernel
theorem dX7_toldOfOne_146 : decode cX7_toldOfOne 146 = .ok (.getfield 10, 3) := by decide +kernel
theorem dX7_toldOfOne_149 : decode cX7_toldOfOne 149 = .ok (.iload_n 1, 1) := by decide +kernel
theorem dX7_toldOfOne_150 : decode cX7_toldOfOne 150 = .ok (.iload_n 2, 1) := by decide +kernel
theorem dX7_toldOfOne_151 : decode cX7_toldOfOne 151 = .ok (.bipush 10, 2) := by decide +kernel
theorem dX7_toldOfOne_153 : decode cX7_toldOfOne 153 = .ok (.isub, 1) := by decide +kernel
theorem dX7_toldOfOne_154 : decode cX7_toldOfOne 154 = .ok (.invokevirtual 108, 3) := by decide +kernel
theorem dX7_toldOfOne_157 : decode cX7_toldOfOne 157 = .ok (.goto 5, 3) := by decide +kernel
theorem dX7_toldOfOne_160 : decode cX7_toldOfOne 160 = .ok (.bipush (-2), 2) := by decide +kernel
theorem dX7_toldOfOne_162 : decode cX7_toldOfOne 162 = .ok (.ireturn, 1) := by decide +kernel
theorem dX7_feed_0 : decode cX7_feed 0 = .ok (.iload_n 1, 1) := by decide +kernel
theorem dX7_feed_1 : decode cX7_feed 1 = .ok (.iconst 0, 1) := by decide +kernel
theorem dX7_feed_2 : decode cX7_feed 2 = .ok (.sipush 255, 3) := by decide +kernel
theorem dX7_feed_5 : decode cX7_feed 5 = .ok (.invokestatic 72, 3) := by decide +kernel
theorem dX7_feed_8 : decode cX7_feed 8 = .ok (.ifCond .ne 6, 3) := by decide +kernel
theorem dX7_feed_11 : decode cX7_feed 11 = .ok (.bipush (-2), 2) := by decide +kernel
theorem dX7_feed_13 : decode cX7_feed 13 = .ok (.ireturn, 1) := by decide +kernel
theorem dX7_feed_14 : decode cX7_feed 14 = .ok (.aload_n 0, 1) := by decide +kernel
theorem dX7_feed_15 : decode cX7_feed 15 = .ok (.getfield 39, 3) := by decide +kernel
theorem dX7_feed_18 : decode cX7_feed 18 = .ok (.iload_n 1, 1) := by decide +kernel
theorem dX7_feed_19 : decode cX7_feed 19 = .ok (.invokevirtual 134, 3) := by decide +kernel
theorem dX7_feed_22 : decode cX7_feed 22 = .ok (.ifCond .eq 13, 3) := by decide +kernel
theorem dX7_feed_25 : decode cX7_feed 25 = .ok (.aload_n 0, 1) := by decide +kernel
theorem dX7_feed_26 : decode cX7_feed 26 = .ok (.getfield 39, 3) := by decide +kernel
theorem dX7_feed_29 : decode cX7_feed 29 = .ok (.getfield 137, 3) := by decide +kernel
theorem dX7_feed_32 : decode cX7_feed 32 = .ok (.goto 5, 3) := by decide +kernel
theorem dX7_feed_35 : decode cX7_feed 35 = .ok (.bipush (-4), 2) := by decide +kernel
theorem dX7_feed_37 : decode cX7_feed 37 = .ok (.ireturn, 1) := by decide +kernel
theorem dX7_text_0 : decode cX7_text 0 = .ok (.aload_n 0, 1) := by decide +kernel
theorem dX7_text_1 : decode cX7_text 1 = .ok (.getfield 49, 3) := by decide +kernel
theorem dX7_text_4 : decode cX7_text 4 = .ok (.bipush 6, 2) := by decide +kernel
theorem dX7_text_6 : decode cX7_text 6 = .ok (.if_icmp .lt 6, 3) := by decide +kernel
theorem dX7_text_9 : decode cX7_text 9 = .ok (.bipush (-4), 2) := by decide +kernel
theorem dX7_text_11 : decode cX7_text 11 = .ok (.ireturn, 1) := by decide +kernel
theorem dX7_text_12 : decode cX7_text 12 = .ok (.aload_n 0, 1) := by decide +kernel
theorem dX7_text_13 : decode cX7_text 13 = .ok (.getfield 39, 3) := by decide +kernel
theorem dX7_text_16 : decode cX7_text 16 = .ok (.invokevirtual 140, 3) := by decide +kernel
theorem dX7_text_19 : decode cX7_text 19 = .ok (.istore_n 1, 1) := by decide +kernel
theorem dX7_text_20 : decode cX7_text 20 = .ok (.aload_n 0, 1) := by decide +kernel
theorem dX7_text_21 : decode cX7_text 21 = .ok (.getfield 39, 3) := by decide +kernel
theorem dX7_text_24 : decode cX7_text 24 = .ok (.iconst 0, 1) := by decide +kernel
theorem dX7_text_25 : decode cX7_text 25 = .ok (.putfield 137, 3) := by decide +kernel
theorem dX7_text_28 : decode cX7_text 28 = .ok (.iload_n 1, 1) := by decide +kernel
theorem dX7_text_29 : decode cX7_text 29 = .ok (.iconst (-1), 1) := by decide +kernel
theorem dX7_text_30 : decode cX7_text 30 = .ok (.if_icmp .eq 8, 3) := by decide +kernel
theorem dX7_text_33 : decode cX7_text 33 = .ok (.bipush (-100), 2) := by decide +kernel
theorem dX7_text_35 : decode cX7_text 35 = .ok (.iload_n 1, 1) := by decide +kernel
theorem dX7_text_36 : decode cX7_text 36 = .ok (.isub, 1) := by decide +kernel
theorem dX7_text_37 : decode cX7_text 37 = .ok (.ireturn, 1) := by decide +kernel
theorem dX7_text_38 : decode cX7_text 38 = .ok (.aload_n 0, 1) := by decide +kernel
theorem dX7_text_39 : decode cX7_text 39 = .ok (.getfield 25, 3) := by decide +kernel
theorem dX7_text_42 : decode cX7_text 42 = .ok (.getfield 143, 3) := by decide +kernel
theorem dX7_text_45 : decode cX7_text 45 = .ok (.aload_n 0, 1) := by decide +kernel
theorem dX7_text_46 : decode cX7_text 46 = .ok (.getfield 49, 3) := by decide +kernel
theorem dX7_text_49 : decode cX7_text 49 = .ok (.aload_n 0, 1) := by decide +kernel
theorem dX7_text_50 : decode cX7_text 50 = .ok (.getfield 39, 3) := by decide +kernel
theorem dX7_text_53 : decode cX7_text 53 = .ok (.invokevirtual 147, 3) := by decide +kernel
theorem dX7_text_56 : decode cX7_text 56 = .ok (.aastore, 1) := by decide +kernel
theorem dX7_text_57 : decode cX7_text 57 = .ok (.aload_n 0, 1) := by decide +kernel
theorem dX7_text_58 : decode cX7_text 58 = .ok (.dup, 1) := by decide +kernel
theorem dX7_text_59 : decode cX7_text 59 = .ok (.getfield 49, 3) := by decide +kernel
theorem dX7_text_62 : decode cX7_text 62 = .ok (.iconst 1, 1) := by decide +kernel
theorem dX7_text_63 : decode cX7_text 63 = .ok (.iadd, 1) := by decide +kernel
theorem dX7_text_64 : decode cX7_text 64 = .ok (.putfield 49, 3) := by decide +kernel
theorem dX7_text_67 : decode cX7_text 67 = .ok (.aload_n 0, 1) := by decide +kernel
theorem dX7_text_68 : decode cX7_text 68 = .ok (.getfield 49, 3) := by decide +kernel
theorem dX7_text_71 : decode cX7_text 71 = .ok (.iconst 1, 1) := by decide +kernel
theorem dX7_text_72 : decode cX7_text 72 = .ok (.isub, 1) := by decide +kernel
theorem dX7_text_73 : decode cX7_text 73 = .ok (.ireturn, 1) := by decide +kernel
theorem dX7_force_0 : decode cX7_force 0 = .ok (.iload_n 1, 1) := by decide +kernel
theorem dX7_force_1 : decode cX7_force 1 = .ok (.iconst 0, 1) := by decide +kernel
theorem dX7_force_2 : decode cX7_force 2 = .ok (.aload_n 0, 1) := by decide +kernel
theorem dX7_force_3 : decode cX7_force 3 = .ok (.getfield 49, 3) := by decide +kernel
theorem dX7_force_6 : decode cX7_force 6 = .ok (.iconst 1, 1) := by decide +kernel
theorem dX7_force_7 : decode cX7_force 7 = .ok (.isub, 1) := by decide +kernel
theorem dX7_force_8 : decode cX7_force 8 = .ok (.invokestatic 72, 3) := by decide +kernel
theorem dX7_force_11 : decode cX7_force 11 = .ok (.ifCond .ne 6, 3) := by decide +kernel
theorem dX7_force_14 : decode cX7_force 14 = .ok (.bipush (-2), 2) := by decide +kernel
theorem dX7_force_16 : decode cX7_force 16 = .ok (.ireturn, 1) := by decide +kernel
theorem dX7_force_17 : decode cX7_force 17 = .ok (.aload_n 0, 1) := by decide +kernel
theorem dX7_force_18 : decode cX7_force 18 = .ok (.getfield 10, 3) := by decide +kernel
theorem dX7_force_21 : decode cX7_force 21 = .ok (.getfield 151, 3) := by decide +kernel
theorem dX7_force_24 : decode cX7_force 24 = .ok (.istore_n 2, 1) := by decide +kernel
theorem dX7_force_25 : decode cX7_force 25 = .ok (.aload_n 0, 1) := by decide +kernel
theorem dX7_force_26 : decode cX7_force 26 = .ok (.getfield 10, 3) := by decide +kernel
theorem dX7_force_29 : decode cX7_force 29 = .ok (.iload_n 1, 1) := by decide +kernel
theorem dX7_force_30 : decode cX7_force 30 = .ok (.putfield 151, 3) := by decide +kernel
theorem dX7_force_33 : decode cX7_force 33 = .ok (.iload_n 2, 1) := by decide +kernel
theorem dX7_force_34 : decode cX7_force 34 = .ok (.ireturn, 1) := by decide +kernel
theorem dX7_table_0 : decode cX7_table 0 = .ok (.iload_n 1, 1) := by decide +kernel
theorem dX7_table_1 : decode cX7_table 1 = .ok (.invokestatic 153, 3) := by decide +kernel
theorem dX7_table_4 : decode cX7_table 4 = .ok (.ifCond .eq 25, 3) := by decide +kernel
theorem dX7_table_7 : decode cX7_table 7 = .ok (.iload_n 2, 1) := by decide +kernel
theorem dX7_table_8 : decode cX7_table 8 = .ok (.iconst 0, 1) := by decide +kernel
theorem dX7_table_9 : decode cX7_table 9 = .ok (.iconst 2, 1) := by decide +kernel
theorem dX7_table_10 : decode cX7_table 10 = .ok (.invokestatic 72, 3) := by decide +kernel
theorem dX7_table_13 : decode cX7_table 13 = .ok (.ifCond .eq 16, 3) := by decide +kernel
theorem dX7_table_16 : decode cX7_table 16 = .ok (.aload_n 0, 1) := by decide +kernel
theorem dX7_table_17 : decode cX7_table 17 = .ok (.aload_n 0, 1) := by decide +kernel
theorem dX7_table_18 : decode cX7_table 18 = .ok (.getfield 45, 3) := by decide +kernel
theorem dX7_table_21 : decode cX7_table 21 = .ok (.iload_n 1, 1) := by decide +kernel
theorem dX7_table_22 : decode cX7_table 22 = .ok (.aaload, 1) := by decide +kernel
theorem dX7_table_23 : decode cX7_table 23 = .ok (.invokevirtual 156, 3) := by decide +kernel
theorem dX7_table_26 : decode cX7_table 26 = .ok (.ifCond .ne 6, 3) := by decide +kernel
theorem dX7_table_29 : decode cX7_table 29 = .ok (.ldc 160, 2) := by decide +kernel
theorem dX7_table_31 : decode cX7_table 31 = .ok (.ireturn, 1) := by decide +kernel
theorem dX7_table_32 : decode cX7_table 32 = .ok (.iload_n 2, 1) := by decide +kernel
theorem dX7_table_33 : decode cX7_table 33 = .ok (.ifCond .ne 20, 3) := by decide +kernel
theorem dX7_table_36 : decode cX7_table 36 = .ok (.aload_n 0, 1) := by decide +kernel
theorem dX7_table_37 : decode cX7_table 37 = .ok (.getfield 32, 3) := by decide +kernel
theorem dX7_table_40 : decode cX7_table 40 = .ok (.invokevirtual 161, 3) := by decide +kernel
theorem dX7_table_43 : decode cX7_table 43 = .ok (.iconst (-1), 1) := by decide +kernel
theorem dX7_table_44 : decode cX7_table 44 = .ok (.if_icmp .ne 7, 3) := by decide +kernel
theorem dX7_table_47 : decode cX7_table 47 = .ok (.iconst 1, 1) := by decide +kernel
theorem dX7_table_48 : decode cX7_table 48 = .ok (.goto 4, 3) := by decide +kernel
theorem dX7_table_51 : decode cX7_table 51 = .ok (.iconst 0, 1) := by decide +kernel
theorem dX7_table_52 : decode cX7_table 52 = .ok (.ireturn, 1) := by decide +kernel
theorem dX7_table_53 : decode cX7_table 53 = .ok (.iload_n 2, 1) := by decide +kernel
theorem dX7_table_54 : decode cX7_table 54 = .ok (.iconst 1, 1) := by decide +kernel
theorem dX7_table_55 : decode cX7_table 55 = .ok (.if_icmp .ne 19, 3) := by decide +kernel
theorem dX7_table_58 : decode cX7_table 58 = .ok (.aload_n 0, 1) := by decide +kernel
theorem dX7_table_59 : decode cX7_table 59 = .ok (.getfield 32, 3) := by decide +kernel
theorem dX7_table_62 : decode cX7_table 62 = .ok (.aload_n 0, 1) := by decide +kernel
theorem dX7_table_63 : decode cX7_table 63 = .ok (.getfield 25, 3) := by decide +kernel
theorem dX7_table_66 : decode cX7_table 66 = .ok (.aload_n 0, 1) := by decide +kernel
theorem dX7_table_67 : decode cX7_table 67 = .ok (.getfield 10, 3) := by decide +kernel
theorem dX7_table_70 : decode cX7_table 70 = .ok (.invokevirtual 164, 3) := by decide +kernel
theorem dX7_table_73 : decode cX7_table 73 = .ok (.ireturn, 1) := by decide +kernel
theorem dX7_table_74 : decode cX7_table 74 = .ok (.aload_n 0, 1) := by decide +kernel
theorem dX7_table_75 : decode cX7_table 75 = .ok (.getfield 19, 3) := by decide +kernel
theorem dX7_table_78 : decode cX7_table 78 = .ok (.aload_n 0, 1) := by decide +kernel
theorem dX7_table_79 : decode cX7_table 79 = .ok (.getfield 10, 3) := by decide +kernel
theorem dX7_table_82 : decode cX7_table 82 = .ok (.invokevirtual 168, 3) := by decide +kernel
theorem dX7_table_85 : decode cX7_table 85 = .ok (.aload_n 0, 1) := by decide +kernel
theorem dX7_table_86 : decode cX7_table 86 = .ok (.getfield 32, 3) := by decide +kernel
theorem dX7_table_89 : decode cX7_table 89 = .ok (.aload_n 0, 1) := by decide +kernel
theorem dX7_table_90 : decode cX7_table 90 = .ok (.getfield 25, 3) := by decide +kernel
theorem dX7_table_93 : decode cX7_table 93 = .ok (.aload_n 0, 1) := by decide +kernel
theorem dX7_table_94 : decode cX7_table 94 = .ok (.getfield 19, 3) := by decide +kernel
theorem dX7_table_97 : decode cX7_table 97 = .ok (.invokevirtual 172, 3) := by decide +kernel
theorem dX7_table_100 : decode cX7_table 100 = .ok (.aload_n 0, 1) := by decide +kernel
theorem dX7_table_101 : decode cX7_table 101 = .ok (.getfield 19, 3) := by decide +kernel
theorem dX7_table_104 : decode cX7_table 104 = .ok (.invokevirtual 176, 3) := by decide +kernel
theorem dX7_table_107 : decode cX7_table 107 = .ok (.ireturn, 1) := by decide +kernel
theorem dX7_dine_0 : decode cX7_dine 0 = .ok (.iload_n 1, 1) := by decide +kernel
theorem dX7_dine_1 : decode cX7_dine 1 = .ok (.invokestatic 153, 3) := by decide +kernel
theorem dX7_dine_4 : decode cX7_dine 4 = .ok (.ifCond .ne 6, 3) := by decide +kernel
theorem dX7_dine_7 : decode cX7_dine 7 = .ok (.bipush (-2), 2) := by decide +kernel
theorem dX7_dine_9 : decode cX7_dine 9 = .ok (.ireturn, 1) := by decide +kernel
theorem dX7_dine_10 : decode cX7_dine 10 = .ok (.aload_n 0, 1) := by decide +kernel
theorem dX7_dine_11 : decode cX7_dine 11 = .ok (.getfield 45, 3) := by decide +kernel
theorem dX7_dine_14 : decode cX7_dine 14 = .ok (.iload_n 1, 1) := by decide +kernel
theorem dX7_dine_15 : decode cX7_dine 15 = .ok (.aaload, 1) := by decide +kernel
theorem dX7_dine_16 : decode cX7_dine 16 = .ok (.getfield 179, 3) := by decide +kernel
theorem dX7_dine_19 : decode cX7_dine 19 = .ok (.iconst (-1), 1) := by decide +kernel
theorem dX7_dine_20 : decode cX7_dine 20 = .ok (.if_icmp .ne 6, 3) := by decide +kernel
theorem dX7_dine_23 : decode cX7_dine 23 = .ok (.bipush (-11), 2) := by decide +kernel
theorem dX7_dine_25 : decode cX7_dine 25 = .ok (.ireturn, 1) := by decide +kernel
theorem dX7_dine_26 : decode cX7_dine 26 = .ok (.aload_n 0, 1) := by decide +kernel
theorem dX7_dine_27 : decode cX7_dine 27 = .ok (.aload_n 0, 1) := by decide +kernel
theorem dX7_dine_28 : decode cX7_dine 28 = .ok (.getfield 45, 3) := by decide +kernel
theorem dX7_dine_31 : decode cX7_dine 31 = .ok (.iload_n 1, 1) := by decide +kernel
theorem dX7_dine_32 : decode cX7_dine 32 = .ok (.aaload, 1) := by decide +kernel
theorem dX7_dine_33 : decode cX7_dine 33 = .ok (.invokevirtual 156, 3) := by decide +kernel
theorem dX7_dine_36 : decode cX7_dine 36 = .ok (.ifCond .ne 6, 3) := by decide +kernel
theorem dX7_dine_39 : decode cX7_dine 39 = .ok (.bipush (-2), 2) := by decide +kernel
theorem dX7_dine_41 : decode cX7_dine 41 = .ok (.ireturn, 1) := by decide +kernel
theorem dX7_dine_42 : decode cX7_dine 42 = .ok (.aload_n 0, 1) := by decide +kernel
theorem dX7_dine_43 : decode cX7_dine 43 = .ok (.getfield 10, 3) := by decide +kernel
theorem dX7_dine_46 : decode cX7_dine 46 = .ok (.getfield 79, 3) := by decide +kernel
theorem dX7_dine_49 : decode cX7_dine 49 = .ok (.sipush 999, 3) := by decide +kernel
theorem dX7_dine_52 : decode cX7_dine 52 = .ok (.if_icmp .lt 6, 3) := by decide +kernel
theorem dX7_dine_55 : decode cX7_dine 55 = .ok (.bipush (-3), 2) := by decide +kernel
theorem dX7_dine_57 : decode cX7_dine 57 = .ok (.ireturn, 1) := by decide +kernel
theorem dX7_dine_58 : decode cX7_dine 58 = .ok (.aload_n 0, 1) := by decide +kernel
theorem dX7_dine_59 : decode cX7_dine 59 = .ok (.getfield 32, 3) := by decide +kernel
theorem dX7_dine_62 : decode cX7_dine 62 = .ok (.aload_n 0, 1) := by decide +kernel
theorem dX7_dine_63 : decode cX7_dine 63 = .ok (.getfield 25, 3) := by decide +kernel
theorem dX7_dine_66 : decode cX7_dine 66 = .ok (.aload_n 0, 1) := by decide +kernel
theorem dX7_dine_67 : decode cX7_dine 67 = .ok (.getfield 10, 3) := by decide +kernel
theorem dX7_dine_70 : decode cX7_dine 70 = .ok (.invokevirtual 172, 3) := by decide +kernel
theorem dX7_dine_73 : decode cX7_dine 73 = .ok (.aload_n 0, 1) := by decide +kernel
theorem dX7_dine_74 : decode cX7_dine 74 = .ok (.getfield 10, 3) := by decide +kernel
theorem dX7_dine_77 : decode cX7_dine 77 = .ok (.dup, 1) := by decide +kernel
theorem dX7_dine_78 : decode cX7_dine 78 = .ok (.getfield 79, 3) := by decide +kernel
theorem dX7_dine_81 : decode cX7_dine 81 = .ok (.iconst 1, 1) := by decide +kernel
theorem dX7_dine_82 : decode cX7_dine 82 = .ok (.iadd, 1) := by decide +kernel
theorem dX7_dine_83 : decode cX7_dine 83 = .ok (.putfield 79, 3) := by decide +kernel
theorem dX7_dine_86 : decode cX7_dine 86 = .ok (.aload_n 0, 1) := by decide +kernel
theorem dX7_dine_87 : decode cX7_dine 87 = .ok (.getfield 10, 3) := by decide +kernel
theorem dX7_dine_90 : decode cX7_dine 90 = .ok (.invokevirtual 176, 3) := by decide +kernel
theorem dX7_dine_93 : decode cX7_dine 93 = .ok (.ireturn, 1) := by decide +kernel
theorem dX7_isTable_0 : decode cX7_isTable 0 = .ok (.aload_n 1, 1) := by decide +kernel
theorem dX7_isTable_1 : decode cX7_isTable 1 = .ok (.getfield 179, 3) := by decide +kernel
theorem dX7_isTable_4 : decode cX7_isTable 4 = .ok (.iconst (-1), 1) := by decide +kernel
theorem dX7_isTable_5 : decode cX7_isTable 5 = .ok (.if_icmp .eq 17, 3) := by decide +kernel
theorem dX7_isTable_8 : decode cX7_isTable 8 = .ok (.aload_n 1, 1) := by decide +kernel
theorem dX7_isTable_9 : decode cX7_isTable 9 = .ok (.getfield 182, 3) := by decide +kernel
theorem dX7_isTable_12 : decode cX7_isTable 12 = .ok (.aload_n 0, 1) := by decide +kernel
theorem dX7_isTable_13 : decode cX7_isTable 13 = .ok (.getfield 10, 3) := by decide +kernel
theorem dX7_isTable_16 : decode cX7_isTable 16 = .ok (.getfield 98, 3) := by decide +kernel
theorem dX7_isTable_19 : decode cX7_isTable 19 = .ok (.if_icmp .le 5, 3) := by decide +kernel
theorem dX7_isTable_22 : decode cX7_isTable 22 = .ok (.iconst 0, 1) := by decide +kernel
theorem dX7_isTable_23 : decode cX7_isTable 23 = .ok (.ireturn, 1) := by decide +kernel
theorem dX7_isTable_24 : decode cX7_isTable 24 = .ok (.iconst 0, 1) := by decide +kernel
theorem dX7_isTable_25 : decode cX7_isTable 25 = .ok (.istore_n 2, 1) := by decide +kernel
theorem dX7_isTable_26 : decode cX7_isTable 26 = .ok (.iconst 0, 1) := by decide +kernel
theorem dX7_isTable_27 : decode cX7_isTable 27 = .ok (.istore_n 3, 1) := by decide +kernel
theorem dX7_isTable_28 : decode cX7_isTable 28 = .ok (.iload_n 3, 1) := by decide +kernel
theorem dX7_isTable_29 : decode cX7_isTable 29 = .ok (.aload_n 1, 1) := by decide +kernel
theorem dX7_isTable_30 : decode cX7_isTable 30 = .ok (.getfield 182, 3) := by decide +kernel
theorem dX7_isTable_33 : decode cX7_isTable 33 = .ok (.if_icmp .ge 64, 3) := by decide +kernel
theorem dX7_isTable_36 : decode cX7_isTable 36 = .ok (.iload_n 3, 1) := by decide +kernel
theorem dX7_isTable_37 : decode cX7_isTable 37 = .ok (.bipush 7, 2) := by decide +kernel
theorem dX7_isTable_39 : decode cX7_isTable 39 = .ok (.if_icmp .ge 58, 3) := by decide +kernel
theorem dX7_isTable_42 : decode cX7_isTable 42 = .ok (.aload_n 1, 1) := by decide +kernel
theorem dX7_isTable_43 : decode cX7_isTable 43 = .ok (.getfield 183, 3) := by decide +kernel
theorem dX7_isTable_46 : decode cX7_isTable 46 = .ok (.iload_n 3, 1) := by decide +kernel
theorem dX7_isTable_47 : decode cX7_isTable 47 = .ok (.iaload, 1) := by decide +kernel
theorem dX7_isTable_48 : decode cX7_isTable 48 = .ok (.istore 4, 2) := by decide +kernel
theorem dX7_isTable_50 : decode cX7_isTable 50 = .ok (.aload_n 0, 1) := by decide +kernel
theorem dX7_isTable_51 : decode cX7_isTable 51 = .ok (.getfield 10, 3) := by decide +kernel
theorem dX7_isTable_54 : decode cX7_isTable 54 = .ok (.iload 4, 2) := by decide +kernel
theorem dX7_isTable_56 : decode cX7_isTable 56 = .ok (.invokevirtual 82, 3) := by decide +kernel
theorem dX7_isTable_59 : decode cX7_isTable 59 = .ok (.ifCond .eq 12, 3) := by decide +kernel
theorem dX7_isTable_62 : decode cX7_isTable 62 = .ok (.iload_n 2, 1) := by decide +kernel
theorem dX7_isTable_63 : decode cX7_isTable 63 = .ok (.iload 4, 2) := by decide +kernel
theorem dX7_isTable_65 : decode cX7_isTable 65 = .ok (.invokestatic 186, 3) := by decide +kernel
theorem dX7_isTable_68 : decode cX7_isTable 68 = .ok (.ifCond .eq 5, 3) := by decide +kernel
theorem dX7_isTable_71 : decode cX7_isTable 71 = .ok (.iconst 0, 1) := by decide +kernel
theorem dX7_isTable_72 : decode cX7_isTable 72 = .ok (.ireturn, 1) := by decide +kernel
theorem dX7_isTable_73 : decode cX7_isTable 73 = .ok (.iload_n 2, 1) := by decide +kernel
theorem dX7_isTable_74 : decode cX7_isTable 74 = .ok (.iconst 1, 1) := by decide +kernel
theorem dX7_isTable_75 : decode cX7_isTable 75 = .ok (.iload 4, 2) := by decide +kernel
theorem dX7_isTable_77 : decode cX7_isTable 77 = .ok (.ishl, 1) := by decide +kernel
theorem dX7_isTable_78 : decode cX7_isTable 78 = .ok (.ior, 1) := by decide +kernel
theorem dX7_isTable_79 : decode cX7_isTable 79 = .ok (.istore_n 2, 1) := by decide +kernel
theorem dX7_isTable_80 : decode cX7_isTable 80 = .ok (.aload_n 0, 1) := by decide +kernel
theorem dX7_isTable_81 : decode cX7_isTable 81 = .ok (.getfield 32, 3) := by decide +kernel
theorem dX7_isTable_84 : decode cX7_isTable 84 = .ok (.getfield 189, 3) := by decide +kernel
theorem dX7_isTable_87 : decode cX7_isTable 87 = .ok (.iload_n 3, 1) := by decide +kernel
theorem dX7_isTable_88 : decode cX7_isTable 88 = .ok (.iload 4, 2) := by decide +kernel
theorem dX7_isTable_90 : decode cX7_isTable 90 = .ok (.iastore, 1) := by decide +kernel
theorem dX7_isTable_91 : decode cX7_isTable 91 = .ok (.iinc 3 1, 3) := by decide +kernel
theorem dX7_isTable_94 : decode cX7_isTable 94 = .ok (.goto (-66), 3) := by decide +kernel
theorem dX7_isTable_97 : decode cX7_isTable 97 = .ok (.aload_n 0, 1) := by decide +kernel
theorem dX7_isTable_98 : decode cX7_isTable 98 = .ok (.getfield 32, 3) := by decide +kernel
theorem dX7_isTable_101 : decode cX7_isTable 101 = .ok (.aload_n 0, 1) := by decide +kernel
theorem dX7_isTable_102 : decode cX7_isTable 102 = .ok (.getfield 10, 3) := by decide +kernel
theorem dX7_isTable_105 : decode cX7_isTable 105 = .ok (.iload_n 2, 1) := by decide +kernel
theorem dX7_isTable_106 : decode cX7_isTable 106 = .ok (.iconst (-1), 1) := by decide +kernel
theorem dX7_isTable_107 : decode cX7_isTable 107 = .ok (.invokevirtual 192, 3) := by decide +kernel
theorem dX7_isTable_110 : decode cX7_isTable 110 = .ok (.iconst 1, 1) := by decide +kernel
theorem dX7_isTable_111 : decode cX7_isTable 111 = .ok (.ireturn, 1) := by decide +kernel
theorem dX7_tables_0 : decode cX7_tables 0 = .ok (.iload_n 1, 1) := by decide +kernel
theorem dX7_tables_1 : decode cX7_tables 1 = .ok (.tableswitch 136 0 4 #[35, 44, 67, 90, 109], 35) := by decide +kernel
theorem dX7_tables_36 : decode cX7_tables 36 = .ok (.aload_n 0, 1) := by decide +kernel
theorem dX7_tables_37 : decode cX7_tables 37 = .ok (.aload_n 0, 1) := by decide +kernel
theorem dX7_tables_38 : decode cX7_tables 38 = .ok (.getfield 10, 3) := by decide +kernel
theorem dX7_tables_41 : decode cX7_tables 41 = .ok (.invokevirtual 196, 3) := by decide +kernel
theorem dX7_tables_44 : decode cX7_tables 44 = .ok (.ireturn, 1) := by decide +kernel
theorem dX7_tables_45 : decode cX7_tables 45 = .ok (.aload_n 0, 1) := by decide +kernel
theorem dX7_tables_46 : decode cX7_tables 46 = .ok (.aload_n 0, 1) := by decide +kernel
theorem dX7_tables_47 : decode cX7_tables 47 = .ok (.getfield 10, 3) := by decide +kernel
theorem dX7_tables_50 : decode cX7_tables 50 = .ok (.invokevirtual 200, 3) := by decide +kernel
theorem dX7_tables_53 : decode cX7_tables 53 = .ok (.ifCond .eq 13, 3) := by decide +kernel
theorem dX7_tables_56 : decode cX7_tables 56 = .ok (.aload_n 0, 1) := by decide +kernel
theorem dX7_tables_57 : decode cX7_tables 57 = .ok (.getfield 32, 3) := by decide +kernel
theorem dX7_tables_60 : decode cX7_tables 60 = .ok (.invokevirtual 204, 3) := by decide +kernel
theorem dX7_tables_63 : decode cX7_tables 63 = .ok (.goto 4, 3) := by decide +kernel
theorem dX7_tables_66 : decode cX7_tables 66 = .ok (.iconst 0, 1) := by decide +kernel
theorem dX7_tables_67 : decode cX7_tables 67 = .ok (.ireturn, 1) := by decide +kernel
theorem dX7_tables_68 : decode cX7_tables 68 = .ok (.aload_n 0, 1) := by decide +kernel
theorem dX7_tables_69 : decode cX7_tables 69 = .ok (.aload_n 0, 1) := by decide +kernel
theorem dX7_tables_70 : decode cX7_tables 70 = .ok (.getfield 10, 3) := by decide +kernel
theorem dX7_tables_73 : decode cX7_tables 73 = .ok (.invokevirtual 200, 3) := by decide +kernel
theorem dX7_tables_76 : decode cX7_tables 76 = .ok (.ifCond .eq 13, 3) := by decide +kernel
theorem dX7_tables_79 : decode cX7_tables 79 = .ok (.aload_n 0, 1) := by decide +kernel
theorem dX7_tables_80 : decode cX7_tables 80 = .ok (.getfield 32, 3) := by decide +kernel
theorem dX7_tables_83 : decode cX7_tables 83 = .ok (.getfield 207, 3) := by decide +kernel
theorem dX7_tables_86 : decode cX7_tables 86 = .ok (.goto 4, 3) := by decide +kernel
theorem dX7_tables_89 : decode cX7_tables 89 = .ok (.iconst 0, 1) := by decide +kernel
theorem dX7_tables_90 : decode cX7_tables 90 = .ok (.ireturn, 1) := by decide +kernel
theorem dX7_tables_91 : decode cX7_tables 91 = .ok (.aload_n 0, 1) := by decide +kernel
