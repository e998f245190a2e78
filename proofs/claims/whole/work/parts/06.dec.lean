theorem dX8_seatedSet_15 : decode cX8_seatedSet 15 = .ok (.getfield 41, 3) := by decide +kernel
theorem dX8_seatedSet_18 : decode cX8_seatedSet 18 = .ok (.iload_n 2, 1) := by decide +kernel
theorem dX8_seatedSet_19 : decode cX8_seatedSet 19 = .ok (.iaload, 1) := by decide +kernel
theorem dX8_seatedSet_20 : decode cX8_seatedSet 20 = .ok (.ishl, 1) := by decide +kernel
theorem dX8_seatedSet_21 : decode cX8_seatedSet 21 = .ok (.ior, 1) := by decide +kernel
theorem dX8_seatedSet_22 : decode cX8_seatedSet 22 = .ok (.istore_n 1, 1) := by decide +kernel
theorem dX8_seatedSet_23 : decode cX8_seatedSet 23 = .ok (.iinc 2 1, 3) := by decide +kernel
theorem dX8_seatedSet_26 : decode cX8_seatedSet 26 = .ok (.goto (-22), 3) := by decide +kernel
theorem dX8_seatedSet_29 : decode cX8_seatedSet 29 = .ok (.iload_n 1, 1) := by decide +kernel
theorem dX8_seatedSet_30 : decode cX8_seatedSet 30 = .ok (.ireturn, 1) := by decide +kernel
theorem dX8_unlawful_0 : decode cX8_unlawful 0 = .ok (.aload_n 0, 1) := by decide +kernel
theorem dX8_unlawful_1 : decode cX8_unlawful 1 = .ok (.invokevirtual 265, 3) := by decide +kernel
theorem dX8_unlawful_4 : decode cX8_unlawful 4 = .ok (.istore_n 1, 1) := by decide +kernel
theorem dX8_unlawful_5 : decode cX8_unlawful 5 = .ok (.iconst 0, 1) := by decide +kernel
theorem dX8_unlawful_6 : decode cX8_unlawful 6 = .ok (.istore_n 2, 1) := by decide +kernel
theorem dX8_unlawful_7 : decode cX8_unlawful 7 = .ok (.iload_n 2, 1) := by decide +kernel
theorem dX8_unlawful_8 : decode cX8_unlawful 8 = .ok (.aload_n 0, 1) := by decide +kernel
theorem dX8_unlawful_9 : decode cX8_unlawful 9 = .ok (.getfield 255, 3) := by decide +kernel
theorem dX8_unlawful_12 : decode cX8_unlawful 12 = .ok (.if_icmp .ge 96, 3) := by decide +kernel
theorem dX8_unlawful_15 : decode cX8_unlawful 15 = .ok (.aload_n 0, 1) := by decide +kernel
theorem dX8_unlawful_16 : decode cX8_unlawful 16 = .ok (.aload_n 0, 1) := by decide +kernel
theorem dX8_unlawful_17 : decode cX8_unlawful 17 = .ok (.getfield 41, 3) := by decide +kernel
theorem dX8_unlawful_20 : decode cX8_unlawful 20 = .ok (.iload_n 2, 1) := by decide +kernel
theorem dX8_unlawful_21 : decode cX8_unlawful 21 = .ok (.iaload, 1) := by decide +kernel
theorem dX8_unlawful_22 : decode cX8_unlawful 22 = .ok (.iload_n 1, 1) := by decide +kernel
theorem dX8_unlawful_23 : decode cX8_unlawful 23 = .ok (.invokevirtual 126, 3) := by decide +kernel
theorem dX8_unlawful_26 : decode cX8_unlawful 26 = .ok (.istore_n 3, 1) := by decide +kernel
theorem dX8_unlawful_27 : decode cX8_unlawful 27 = .ok (.aload_n 0, 1) := by decide +kernel
theorem dX8_unlawful_28 : decode cX8_unlawful 28 = .ok (.aload_n 0, 1) := by decide +kernel
theorem dX8_unlawful_29 : decode cX8_unlawful 29 = .ok (.getfield 41, 3) := by decide +kernel
theorem dX8_unlawful_32 : decode cX8_unlawful 32 = .ok (.iload_n 2, 1) := by decide +kernel
theorem dX8_unlawful_33 : decode cX8_unlawful 33 = .ok (.iaload, 1) := by decide +kernel
theorem dX8_unlawful_34 : decode cX8_unlawful 34 = .ok (.iload_n 3, 1) := by decide +kernel
theorem dX8_unlawful_35 : decode cX8_unlawful 35 = .ok (.invokevirtual 129, 3) := by decide +kernel
theorem dX8_unlawful_38 : decode cX8_unlawful 38 = .ok (.ifCond .eq 64, 3) := by decide +kernel
theorem dX8_unlawful_41 : decode cX8_unlawful 41 = .ok (.iconst 0, 1) := by decide +kernel
theorem dX8_unlawful_42 : decode cX8_unlawful 42 = .ok (.istore 4, 2) := by decide +kernel
theorem dX8_unlawful_44 : decode cX8_unlawful 44 = .ok (.iconst 0, 1) := by decide +kernel
theorem dX8_unlawful_45 : decode cX8_unlawful 45 = .ok (.istore 5, 2) := by decide +kernel
theorem dX8_unlawful_47 : decode cX8_unlawful 47 = .ok (.iload 5, 2) := by decide +kernel
theorem dX8_unlawful_49 : decode cX8_unlawful 49 = .ok (.aload_n 0, 1) := by decide +kernel
theorem dX8_unlawful_50 : decode cX8_unlawful 50 = .ok (.getfield 255, 3) := by decide +kernel
theorem dX8_unlawful_53 : decode cX8_unlawful 53 = .ok (.if_icmp .ge 42, 3) := by decide +kernel
theorem dX8_unlawful_56 : decode cX8_unlawful 56 = .ok (.iload 4, 2) := by decide +kernel
theorem dX8_unlawful_58 : decode cX8_unlawful 58 = .ok (.ifCond .ne 24, 3) := by decide +kernel
theorem dX8_unlawful_61 : decode cX8_unlawful 61 = .ok (.aload_n 0, 1) := by decide +kernel
theorem dX8_unlawful_62 : decode cX8_unlawful 62 = .ok (.getfield 41, 3) := by decide +kernel
theorem dX8_unlawful_65 : decode cX8_unlawful 65 = .ok (.iload 5, 2) := by decide +kernel
theorem dX8_unlawful_67 : decode cX8_unlawful 67 = .ok (.iaload, 1) := by decide +kernel
theorem dX8_unlawful_68 : decode cX8_unlawful 68 = .ok (.iload_n 3, 1) := by decide +kernel
theorem dX8_unlawful_69 : decode cX8_unlawful 69 = .ok (.if_icmp .ne 17, 3) := by decide +kernel
theorem dX8_unlawful_72 : decode cX8_unlawful 72 = .ok (.aload_n 0, 1) := by decide +kernel
theorem dX8_unlawful_73 : decode cX8_unlawful 73 = .ok (.iload_n 2, 1) := by decide +kernel
theorem dX8_unlawful_74 : decode cX8_unlawful 74 = .ok (.iload 5, 2) := by decide +kernel
theorem dX8_unlawful_76 : decode cX8_unlawful 76 = .ok (.invokevirtual 268, 3) := by decide +kernel
theorem dX8_unlawful_79 : decode cX8_unlawful 79 = .ok (.ifCond .eq 7, 3) := by decide +kernel
theorem dX8_unlawful_82 : decode cX8_unlawful 82 = .ok (.iconst 1, 1) := by decide +kernel
theorem dX8_unlawful_83 : decode cX8_unlawful 83 = .ok (.goto 4, 3) := by decide +kernel
theorem dX8_unlawful_86 : decode cX8_unlawful 86 = .ok (.iconst 0, 1) := by decide +kernel
theorem dX8_unlawful_87 : decode cX8_unlawful 87 = .ok (.istore 4, 2) := by decide +kernel
theorem dX8_unlawful_89 : decode cX8_unlawful 89 = .ok (.iinc 5 1, 3) := by decide +kernel
theorem dX8_unlawful_92 : decode cX8_unlawful 92 = .ok (.goto (-45), 3) := by decide +kernel
theorem dX8_unlawful_95 : decode cX8_unlawful 95 = .ok (.iload 4, 2) := by decide +kernel
theorem dX8_unlawful_97 : decode cX8_unlawful 97 = .ok (.ifCond .ne 5, 3) := by decide +kernel
theorem dX8_unlawful_100 : decode cX8_unlawful 100 = .ok (.iload_n 2, 1) := by decide +kernel
theorem dX8_unlawful_101 : decode cX8_unlawful 101 = .ok (.ireturn, 1) := by decide +kernel
theorem dX8_unlawful_102 : decode cX8_unlawful 102 = .ok (.iinc 2 1, 3) := by decide +kernel
theorem dX8_unlawful_105 : decode cX8_unlawful 105 = .ok (.goto (-98), 3) := by decide +kernel
theorem dX8_unlawful_108 : decode cX8_unlawful 108 = .ok (.iconst (-1), 1) := by decide +kernel
theorem dX8_unlawful_109 : decode cX8_unlawful 109 = .ok (.ireturn, 1) := by decide +kernel
theorem dX8_joy_0 : decode cX8_joy 0 = .ok (.iconst 0, 1) := by decide +kernel
theorem dX8_joy_1 : decode cX8_joy 1 = .ok (.istore_n 1, 1) := by decide +kernel
theorem dX8_joy_2 : decode cX8_joy 2 = .ok (.iconst 0, 1) := by decide +kernel
theorem dX8_joy_3 : decode cX8_joy 3 = .ok (.istore_n 2, 1) := by decide +kernel
theorem dX8_joy_4 : decode cX8_joy 4 = .ok (.iload_n 2, 1) := by decide +kernel
theorem dX8_joy_5 : decode cX8_joy 5 = .ok (.aload_n 0, 1) := by decide +kernel
theorem dX8_joy_6 : decode cX8_joy 6 = .ok (.getfield 255, 3) := by decide +kernel
theorem dX8_joy_9 : decode cX8_joy 9 = .ok (.if_icmp .ge 47, 3) := by decide +kernel
theorem dX8_joy_12 : decode cX8_joy 12 = .ok (.iconst 0, 1) := by decide +kernel
theorem dX8_joy_13 : decode cX8_joy 13 = .ok (.istore_n 3, 1) := by decide +kernel
theorem dX8_joy_14 : decode cX8_joy 14 = .ok (.iload_n 3, 1) := by decide +kernel
theorem dX8_joy_15 : decode cX8_joy 15 = .ok (.aload_n 0, 1) := by decide +kernel
theorem dX8_joy_16 : decode cX8_joy 16 = .ok (.getfield 255, 3) := by decide +kernel
theorem dX8_joy_19 : decode cX8_joy 19 = .ok (.if_icmp .ge 31, 3) := by decide +kernel
theorem dX8_joy_22 : decode cX8_joy 22 = .ok (.iload_n 1, 1) := by decide +kernel
theorem dX8_joy_23 : decode cX8_joy 23 = .ok (.aload_n 0, 1) := by decide +kernel
theorem dX8_joy_24 : decode cX8_joy 24 = .ok (.iload_n 2, 1) := by decide +kernel
theorem dX8_joy_25 : decode cX8_joy 25 = .ok (.iload_n 3, 1) := by decide +kernel
theorem dX8_joy_26 : decode cX8_joy 26 = .ok (.invokevirtual 268, 3) := by decide +kernel
theorem dX8_joy_29 : decode cX8_joy 29 = .ok (.ifCond .eq 12, 3) := by decide +kernel
theorem dX8_joy_32 : decode cX8_joy 32 = .ok (.aload_n 0, 1) := by decide +kernel
theorem dX8_joy_33 : decode cX8_joy 33 = .ok (.iload_n 2, 1) := by decide +kernel
theorem dX8_joy_34 : decode cX8_joy 34 = .ok (.iload_n 3, 1) := by decide +kernel
theorem dX8_joy_35 : decode cX8_joy 35 = .ok (.invokevirtual 271, 3) := by decide +kernel
theorem dX8_joy_38 : decode cX8_joy 38 = .ok (.goto 4, 3) := by decide +kernel
theorem dX8_joy_41 : decode cX8_joy 41 = .ok (.iconst 0, 1) := by decide +kernel
theorem dX8_joy_42 : decode cX8_joy 42 = .ok (.iadd, 1) := by decide +kernel
theorem dX8_joy_43 : decode cX8_joy 43 = .ok (.istore_n 1, 1) := by decide +kernel
theorem dX8_joy_44 : decode cX8_joy 44 = .ok (.iinc 3 1, 3) := by decide +kernel
theorem dX8_joy_47 : decode cX8_joy 47 = .ok (.goto (-33), 3) := by decide +kernel
theorem dX8_joy_50 : decode cX8_joy 50 = .ok (.iinc 2 1, 3) := by decide +kernel
theorem dX8_joy_53 : decode cX8_joy 53 = .ok (.goto (-49), 3) := by decide +kernel
theorem dX8_joy_56 : decode cX8_joy 56 = .ok (.iload_n 1, 1) := by decide +kernel
theorem dX8_joy_57 : decode cX8_joy 57 = .ok (.ireturn, 1) := by decide +kernel
theorem dX8_lessens_0 : decode cX8_lessens 0 = .ok (.bipush 7, 2) := by decide +kernel
theorem dX8_lessens_2 : decode cX8_lessens 2 = .ok (.iload_n 1, 1) := by decide +kernel
theorem dX8_lessens_3 : decode cX8_lessens 3 = .ok (.imul, 1) := by decide +kernel
theorem dX8_lessens_4 : decode cX8_lessens 4 = .ok (.iload_n 2, 1) := by decide +kernel
theorem dX8_lessens_5 : decode cX8_lessens 5 = .ok (.iadd, 1) := by decide +kernel
theorem dX8_lessens_6 : decode cX8_lessens 6 = .ok (.istore 4, 2) := by decide +kernel
theorem dX8_lessens_8 : decode cX8_lessens 8 = .ok (.aload_n 0, 1) := by decide +kernel
theorem dX8_lessens_9 : decode cX8_lessens 9 = .ok (.getfield 35, 3) := by decide +kernel
theorem dX8_lessens_12 : decode cX8_lessens 12 = .ok (.iload 4, 2) := by decide +kernel
theorem dX8_lessens_14 : decode cX8_lessens 14 = .ok (.aload_n 0, 1) := by decide +kernel
theorem dX8_lessens_15 : decode cX8_lessens 15 = .ok (.getfield 35, 3) := by decide +kernel
theorem dX8_lessens_18 : decode cX8_lessens 18 = .ok (.iload 4, 2) := by decide +kernel
theorem dX8_lessens_20 : decode cX8_lessens 20 = .ok (.iaload, 1) := by decide +kernel
theorem dX8_lessens_21 : decode cX8_lessens 21 = .ok (.iload_n 3, 1) := by decide +kernel
theorem dX8_lessens_22 : decode cX8_lessens 22 = .ok (.iadd, 1) := by decide +kernel
theorem dX8_lessens_23 : decode cX8_lessens 23 = .ok (.iconst 0, 1) := by decide +kernel
theorem dX8_lessens_24 : decode cX8_lessens 24 = .ok (.sipush 999, 3) := by decide +kernel
theorem dX8_lessens_27 : decode cX8_lessens 27 = .ok (.invokestatic 258, 3) := by decide +kernel
theorem dX8_lessens_30 : decode cX8_lessens 30 = .ok (.iastore, 1) := by decide +kernel
theorem dX8_lessens_31 : decode cX8_lessens 31 = .ok (.return_, 1) := by decide +kernel
theorem dX8_settles_0 : decode cX8_settles 0 = .ok (.aload_n 0, 1) := by decide +kernel
theorem dX8_settles_1 : decode cX8_settles 1 = .ok (.aload_n 0, 1) := by decide +kernel
theorem dX8_settles_2 : decode cX8_settles 2 = .ok (.getfield 41, 3) := by decide +kernel
theorem dX8_settles_5 : decode cX8_settles 5 = .ok (.iload_n 1, 1) := by decide +kernel
theorem dX8_settles_6 : decode cX8_settles 6 = .ok (.iaload, 1) := by decide +kernel
theorem dX8_settles_7 : decode cX8_settles 7 = .ok (.aload_n 0, 1) := by decide +kernel
theorem dX8_settles_8 : decode cX8_settles 8 = .ok (.getfield 41, 3) := by decide +kernel
theorem dX8_settles_11 : decode cX8_settles 11 = .ok (.iload_n 2, 1) := by decide +kernel
theorem dX8_settles_12 : decode cX8_settles 12 = .ok (.iaload, 1) := by decide +kernel
theorem dX8_settles_13 : decode cX8_settles 13 = .ok (.aload_n 0, 1) := by decide +kernel
theorem dX8_settles_14 : decode cX8_settles 14 = .ok (.iload_n 2, 1) := by decide +kernel
theorem dX8_settles_15 : decode cX8_settles 15 = .ok (.iload_n 1, 1) := by decide +kernel
theorem dX8_settles_16 : decode cX8_settles 16 = .ok (.invokevirtual 274, 3) := by decide +kernel
theorem dX8_settles_19 : decode cX8_settles 19 = .ok (.ineg, 1) := by decide +kernel
theorem dX8_settles_20 : decode cX8_settles 20 = .ok (.invokevirtual 277, 3) := by decide +kernel
theorem dX8_settles_23 : decode cX8_settles 23 = .ok (.aload_n 0, 1) := by decide +kernel
theorem dX8_settles_24 : decode cX8_settles 24 = .ok (.aload_n 0, 1) := by decide +kernel
theorem dX8_settles_25 : decode cX8_settles 25 = .ok (.getfield 41, 3) := by decide +kernel
theorem dX8_settles_28 : decode cX8_settles 28 = .ok (.iload_n 2, 1) := by decide +kernel
theorem dX8_settles_29 : decode cX8_settles 29 = .ok (.iaload, 1) := by decide +kernel
theorem dX8_settles_30 : decode cX8_settles 30 = .ok (.aload_n 0, 1) := by decide +kernel
theorem dX8_settles_31 : decode cX8_settles 31 = .ok (.getfield 41, 3) := by decide +kernel
theorem dX8_settles_34 : decode cX8_settles 34 = .ok (.iload_n 1, 1) := by decide +kernel
theorem dX8_settles_35 : decode cX8_settles 35 = .ok (.iaload, 1) := by decide +kernel
theorem dX8_settles_36 : decode cX8_settles 36 = .ok (.aload_n 0, 1) := by decide +kernel
theorem dX8_settles_37 : decode cX8_settles 37 = .ok (.iload_n 1, 1) := by decide +kernel
theorem dX8_settles_38 : decode cX8_settles 38 = .ok (.iload_n 2, 1) := by decide +kernel
theorem dX8_settles_39 : decode cX8_settles 39 = .ok (.invokevirtual 274, 3) := by decide +kernel
theorem dX8_settles_42 : decode cX8_settles 42 = .ok (.ineg, 1) := by decide +kernel
theorem dX8_settles_43 : decode cX8_settles 43 = .ok (.invokevirtual 277, 3) := by decide +kernel
theorem dX8_settles_46 : decode cX8_settles 46 = .ok (.aload_n 0, 1) := by decide +kernel
theorem dX8_settles_47 : decode cX8_settles 47 = .ok (.aload_n 0, 1) := by decide +kernel
theorem dX8_settles_48 : decode cX8_settles 48 = .ok (.getfield 41, 3) := by decide +kernel
theorem dX8_settles_51 : decode cX8_settles 51 = .ok (.iload_n 1, 1) := by decide +kernel
theorem dX8_settles_52 : decode cX8_settles 52 = .ok (.iaload, 1) := by decide +kernel
theorem dX8_settles_53 : decode cX8_settles 53 = .ok (.aload_n 0, 1) := by decide +kernel
theorem dX8_settles_54 : decode cX8_settles 54 = .ok (.getfield 41, 3) := by decide +kernel
theorem dX8_settles_57 : decode cX8_settles 57 = .ok (.iload_n 2, 1) := by decide +kernel
theorem dX8_settles_58 : decode cX8_settles 58 = .ok (.iaload, 1) := by decide +kernel
theorem dX8_settles_59 : decode cX8_settles 59 = .ok (.aload_n 0, 1) := by decide +kernel
theorem dX8_settles_60 : decode cX8_settles 60 = .ok (.iload_n 2, 1) := by decide +kernel
theorem dX8_settles_61 : decode cX8_settles 61 = .ok (.iload_n 1, 1) := by decide +kernel
theorem dX8_settles_62 : decode cX8_settles 62 = .ok (.invokevirtual 280, 3) := by decide +kernel
theorem dX8_settles_65 : decode cX8_settles 65 = .ok (.invokevirtual 277, 3) := by decide +kernel
theorem dX8_settles_68 : decode cX8_settles 68 = .ok (.aload_n 0, 1) := by decide +kernel
theorem dX8_settles_69 : decode cX8_settles 69 = .ok (.aload_n 0, 1) := by decide +kernel
theorem dX8_settles_70 : decode cX8_settles 70 = .ok (.getfield 41, 3) := by decide +kernel
theorem dX8_settles_73 : decode cX8_settles 73 = .ok (.iload_n 2, 1) := by decide +kernel
theorem dX8_settles_74 : decode cX8_settles 74 = .ok (.iaload, 1) := by decide +kernel
theorem dX8_settles_75 : decode cX8_settles 75 = .ok (.aload_n 0, 1) := by decide +kernel
theorem dX8_settles_76 : decode cX8_settles 76 = .ok (.getfield 41, 3) := by decide +kernel
theorem dX8_settles_79 : decode cX8_settles 79 = .ok (.iload_n 1, 1) := by decide +kernel
theorem dX8_settles_80 : decode cX8_settles 80 = .ok (.iaload, 1) := by decide +kernel
theorem dX8_settles_81 : decode cX8_settles 81 = .ok (.aload_n 0, 1) := by decide +kernel
theorem dX8_settles_82 : decode cX8_settles 82 = .ok (.iload_n 1, 1) := by decide +kernel
theorem dX8_settles_83 : decode cX8_settles 83 = .ok (.iload_n 2, 1) := by decide +kernel
theorem dX8_settles_84 : decode cX8_settles 84 = .ok (.invokevirtual 280, 3) := by decide +kernel
theorem dX8_settles_87 : decode cX8_settles 87 = .ok (.invokevirtual 277, 3) := by decide +kernel
theorem dX8_settles_90 : decode cX8_settles 90 = .ok (.return_, 1) := by decide +kernel
theorem dX8_dines_0 : decode cX8_dines 0 = .ok (.iconst 0, 1) := by decide +kernel
theorem dX8_dines_1 : decode cX8_dines 1 = .ok (.istore_n 1, 1) := by decide +kernel
theorem dX8_dines_2 : decode cX8_dines 2 = .ok (.iload_n 1, 1) := by decide +kernel
theorem dX8_dines_3 : decode cX8_dines 3 = .ok (.aload_n 0, 1) := by decide +kernel
theorem dX8_dines_4 : decode cX8_dines 4 = .ok (.getfield 255, 3) := by decide +kernel
theorem dX8_dines_7 : decode cX8_dines 7 = .ok (.iconst 1, 1) := by decide +kernel
theorem dX8_dines_8 : decode cX8_dines 8 = .ok (.isub, 1) := by decide +kernel
theorem dX8_dines_9 : decode cX8_dines 9 = .ok (.if_icmp .ge 17, 3) := by decide +kernel
theorem dX8_dines_12 : decode cX8_dines 12 = .ok (.aload_n 0, 1) := by decide +kernel
theorem dX8_dines_13 : decode cX8_dines 13 = .ok (.iload_n 1, 1) := by decide +kernel
theorem dX8_dines_14 : decode cX8_dines 14 = .ok (.iload_n 1, 1) := by decide +kernel
theorem dX8_dines_15 : decode cX8_dines 15 = .ok (.iconst 1, 1) := by decide +kernel
theorem dX8_dines_16 : decode cX8_dines 16 = .ok (.iadd, 1) := by decide +kernel
theorem dX8_dines_17 : decode cX8_dines 17 = .ok (.invokevirtual 283, 3) := by decide +kernel
theorem dX8_dines_20 : decode cX8_dines 20 = .ok (.iinc 1 1, 3) := by decide +kernel
theorem dX8_dines_23 : decode cX8_dines 23 = .ok (.goto (-21), 3) := by decide +kernel
theorem dX8_dines_26 : decode cX8_dines 26 = .ok (.aload_n 0, 1) := by decide +kernel
theorem dX8_dines_27 : decode cX8_dines 27 = .ok (.getfield 23, 3) := by decide +kernel
theorem dX8_dines_30 : decode cX8_dines 30 = .ok (.iconst 1, 1) := by decide +kernel
theorem dX8_dines_31 : decode cX8_dines 31 = .ok (.if_icmp .ne 22, 3) := by decide +kernel
theorem dX8_dines_34 : decode cX8_dines 34 = .ok (.aload_n 0, 1) := by decide +kernel
theorem dX8_dines_35 : decode cX8_dines 35 = .ok (.getfield 255, 3) := by decide +kernel
theorem dX8_dines_38 : decode cX8_dines 38 = .ok (.iconst 2, 1) := by decide +kernel
theorem dX8_dines_39 : decode cX8_dines 39 = .ok (.if_icmp .le 14, 3) := by decide +kernel
theorem dX8_dines_42 : decode cX8_dines 42 = .ok (.aload_n 0, 1) := by decide +kernel
theorem dX8_dines_43 : decode cX8_dines 43 = .ok (.aload_n 0, 1) := by decide +kernel
theorem dX8_dines_44 : decode cX8_dines 44 = .ok (.getfield 255, 3) := by decide +kernel
theorem dX8_dines_47 : decode cX8_dines 47 = .ok (.iconst 1, 1) := by decide +kernel
theorem dX8_dines_48 : decode cX8_dines 48 = .ok (.isub, 1) := by decide +kernel
theorem dX8_dines_49 : decode cX8_dines 49 = .ok (.iconst 0, 1) := by decide +kernel
theorem dX8_dines_50 : decode cX8_dines 50 = .ok (.invokevirtual 283, 3) := by decide +kernel
theorem dX8_dines_53 : decode cX8_dines 53 = .ok (.return_, 1) := by decide +kernel
theorem dX8_owed_0 : decode cX8_owed 0 = .ok (.iconst 0, 1) := by decide +kernel
theorem dX8_owed_1 : decode cX8_owed 1 = .ok (.istore_n 1, 1) := by decide +kernel
theorem dX8_owed_2 : decode cX8_owed 2 = .ok (.iconst 0, 1) := by decide +kernel
theorem dX8_owed_3 : decode cX8_owed 3 = .ok (.istore_n 2, 1) := by decide +kernel
theorem dX8_owed_4 : decode cX8_owed 4 = .ok (.iload_n 2, 1) := by decide +kernel
theorem dX8_owed_5 : decode cX8_owed 5 = .ok (.aload_n 0, 1) := by decide +kernel
theorem dX8_owed_6 : decode cX8_owed 6 = .ok (.getfield 82, 3) := by decide +kernel
theorem dX8_owed_9 : decode cX8_owed 9 = .ok (.if_icmp .ge 17, 3) := by decide +kernel
theorem dX8_owed_12 : decode cX8_owed 12 = .ok (.iload_n 1, 1) := by decide +kernel
theorem dX8_owed_13 : decode cX8_owed 13 = .ok (.aload_n 0, 1) := by decide +kernel
theorem dX8_owed_14 : decode cX8_owed 14 = .ok (.iload_n 2, 1) := by decide +kernel
theorem dX8_owed_15 : decode cX8_owed 15 = .ok (.invokevirtual 132, 3) := by decide +kernel
theorem dX8_owed_18 : decode cX8_owed 18 = .ok (.iadd, 1) := by decide +kernel
theorem dX8_owed_19 : decode cX8_owed 19 = .ok (.istore_n 1, 1) := by decide +kernel
theorem dX8_owed_20 : decode cX8_owed 20 = .ok (.iinc 2 1, 3) := by decide +kernel
theorem dX8_owed_23 : decode cX8_owed 23 = .ok (.goto (-19), 3) := by decide +kernel
theorem dX8_owed_26 : decode cX8_owed 26 = .ok (.iload_n 1, 1) := by decide +kernel
theorem dX8_owed_27 : decode cX8_owed 27 = .ok (.ireturn, 1) := by decide +kernel
theorem dX8_ruined_0 : decode cX8_ruined 0 = .ok (.iconst 0, 1) := by decide +kernel
theorem dX8_ruined_1 : decode cX8_ruined 1 = .ok (.istore_n 1, 1) := by decide +kernel
theorem dX8_ruined_2 : decode cX8_ruined 2 = .ok (.iconst 0, 1) := by decide +kernel
theorem dX8_ruined_3 : decode cX8_ruined 3 = .ok (.istore_n 2, 1) := by decide +kernel
theorem dX8_ruined_4 : decode cX8_ruined 4 = .ok (.iload_n 2, 1) := by decide +kernel
theorem dX8_ruined_5 : decode cX8_ruined 5 = .ok (.aload_n 0, 1) := by decide +kernel
theorem dX8_ruined_6 : decode cX8_ruined 6 = .ok (.getfield 82, 3) := by decide +kernel
theorem dX8_ruined_9 : decode cX8_ruined 9 = .ok (.if_icmp .ge 30, 3) := by decide +kernel
theorem dX8_ruined_12 : decode cX8_ruined 12 = .ok (.iload_n 1, 1) := by decide +kernel
theorem dX8_ruined_13 : decode cX8_ruined 13 = .ok (.aload_n 0, 1) := by decide +kernel
theorem dX8_ruined_14 : decode cX8_ruined 14 = .ok (.iload_n 2, 1) := by decide +kernel
theorem dX8_ruined_15 : decode cX8_ruined 15 = .ok (.invokevirtual 132, 3) := by decide +kernel
theorem dX8_ruined_18 : decode cX8_ruined 18 = .ok (.sipush 1000, 3) := by decide +kernel
theorem dX8_ruined_21 : decode cX8_ruined 21 = .ok (.if_icmp .lt 7, 3) := by decide +kernel
theorem dX8_ruined_24 : decode cX8_ruined 24 = .ok (.iconst 1, 1) := by decide +kernel
theorem dX8_ruined_25 : decode cX8_ruined 25 = .ok (.goto 4, 3) := by decide +kernel
theorem dX8_ruined_28 : decode cX8_ruined 28 = .ok (.iconst 0, 1) := by decide +kernel
theorem dX8_ruined_29 : decode cX8_ruined 29 = .ok (.iload_n 2, 1) := by decide +kernel
theorem dX8_ruined_30 : decode cX8_ruined 30 = .ok (.ishl, 1) := by decide +kernel
theorem dX8_ruined_31 : decode cX8_ruined 31 = .ok (.ior, 1) := by decide +kernel
theorem dX8_ruined_32 : decode cX8_ruined 32 = .ok (.istore_n 1, 1) := by decide +kernel
theorem dX8_ruined_33 : decode cX8_ruined 33 = .ok (.iinc 2 1, 3) := by decide +kernel
theorem dX8_ruined_36 : decode cX8_ruined 36 = .ok (.goto (-32), 3) := by decide +kernel
theorem dX8_ruined_39 : decode cX8_ruined 39 = .ok (.iload_n 1, 1) := by decide +kernel
theorem dX8_ruined_40 : decode cX8_ruined 40 = .ok (.ireturn, 1) := by decide +kernel
theorem dX8_laysAside_0 : decode cX8_laysAside 0 = .ok (.iconst 0, 1) := by decide +kernel
theorem dX8_laysAside_1 : decode cX8_laysAside 1 = .ok (.istore_n 1, 1) := by decide +kernel
theorem dX8_laysAside_2 : decode cX8_laysAside 2 = .ok (.iload_n 1, 1) := by decide +kernel
theorem dX8_laysAside_3 : decode cX8_laysAside 3 = .ok (.bipush 49, 2) := by decide +kernel
theorem dX8_laysAside_5 : decode cX8_laysAside 5 = .ok (.if_icmp .ge 21, 3) := by decide +kernel
theorem dX8_laysAside_8 : decode cX8_laysAside 8 = .ok (.aload_n 0, 1) := by decide +kernel
theorem dX8_laysAside_9 : decode cX8_laysAside 9 = .ok (.getfield 44, 3) := by decide +kernel
theorem dX8_laysAside_12 : decode cX8_laysAside 12 = .ok (.iload_n 1, 1) := by decide +kernel
theorem dX8_laysAside_13 : decode cX8_laysAside 13 = .ok (.aload_n 0, 1) := by decide +kernel
theorem dX8_laysAside_14 : decode cX8_laysAside 14 = .ok (.getfield 35, 3) := by decide +kernel
theorem dX8_laysAside_17 : decode cX8_laysAside 17 = .ok (.iload_n 1, 1) := by decide +kernel
theorem dX8_laysAside_18 : decode cX8_laysAside 18 = .ok (.iaload, 1) := by decide +kernel
theorem dX8_laysAside_19 : decode cX8_laysAside 19 = .ok (.iastore, 1) := by decide +kernel
theorem dX8_laysAside_20 : decode cX8_laysAside 20 = .ok (.iinc 1 1, 3) := by decide +kernel
theorem dX8_laysAside_23 : decode cX8_laysAside 23 = .ok (.goto (-21), 3) := by decide +kernel
theorem dX8_laysAside_26 : decode cX8_laysAside 26 = .ok (.return_, 1) := by decide +kernel
theorem dX8_laysBack_0 : decode cX8_laysBack 0 = .ok (.iconst 0, 1) := by decide +kernel
theorem dX8_laysBack_1 : decode cX8_laysBack 1 = .ok (.istore_n 1, 1) := by decide +kernel
theorem dX8_laysBack_2 : decode cX8_laysBack 2 = .ok (.iload_n 1, 1) := by decide +kernel
theorem dX8_laysBack_3 : decode cX8_laysBack 3 = .ok (.bipush 49, 2) := by decide +kernel
theorem dX8_laysBack_5 : decode cX8_laysBack 5 = .ok (.if_icmp .ge 21, 3) := by decide +kernel
theorem dX8_laysBack_8 : decode cX8_laysBack 8 = .ok (.aload_n 0, 1) := by decide +kernel
theorem dX8_laysBack_9 : decode cX8_laysBack 9 = .ok (.getfield 35, 3) := by decide +kernel
theorem dX8_laysBack_12 : decode cX8_laysBack 12 = .ok (.iload_n 1, 1) := by decide +kernel
theorem dX8_laysBack_13 : decode cX8_laysBack 13 = .ok (.aload_n 0, 1) := by decide +kernel
theorem dX8_laysBack_14 : decode cX8_laysBack 14 = .ok (.getfield 44, 3) := by decide +kernel
theorem dX8_laysBack_17 : decode cX8_laysBack 17 = .ok (.iload_n 1, 1) := by decide +kernel
theorem dX8_laysBack_18 : decode cX8_laysBack 18 = .ok (.iaload, 1) := by decide +kernel
theorem dX8_laysBack_19 : decode cX8_laysBack 19 = .ok (.iastore, 1) := by decide +kernel
theorem dX8_laysBack_20 : decode cX8_laysBack 20 = .ok (.iinc 1 1, 3) := by decide +kernel
theorem dX8_laysBack_23 : decode cX8_laysBack 23 = .ok (.goto (-21), 3) := by decide +kernel
theorem dX8_laysBack_26 : decode cX8_laysBack 26 = .ok (.return_, 1) := by decide +kernel
theorem dX8_owedBehind_0 : decode cX8_owedBehind 0 = .ok (.aload_n 0, 1) := by decide +kernel
theorem dX8_owedBehind_1 : decode cX8_owedBehind 1 = .ok (.invokevirtual 287, 3) := by decide +kernel
theorem dX8_owedBehind_4 : decode cX8_owedBehind 4 = .ok (.aload_n 0, 1) := by decide +kernel
theorem dX8_owedBehind_5 : decode cX8_owedBehind 5 = .ok (.invokevirtual 290, 3) := by decide +kernel
theorem dX8_owedBehind_8 : decode cX8_owedBehind 8 = .ok (.aload_n 0, 1) := by decide +kernel
theorem dX8_owedBehind_9 : decode cX8_owedBehind 9 = .ok (.invokevirtual 293, 3) := by decide +kernel
theorem dX8_owedBehind_12 : decode cX8_owedBehind 12 = .ok (.istore_n 1, 1) := by decide +kernel
theorem dX8_owedBehind_13 : decode cX8_owedBehind 13 = .ok (.aload_n 0, 1) := by decide +kernel
theorem dX8_owedBehind_14 : decode cX8_owedBehind 14 = .ok (.invokevirtual 296, 3) := by decide +kernel
theorem dX8_owedBehind_17 : decode cX8_owedBehind 17 = .ok (.iload_n 1, 1) := by decide +kernel
theorem dX8_owedBehind_18 : decode cX8_owedBehind 18 = .ok (.ireturn, 1) := by decide +kernel
theorem dX8_sits_0 : decode cX8_sits 0 = .ok (.iconst 0, 1) := by decide +kernel
theorem dX8_sits_1 : decode cX8_sits 1 = .ok (.istore_n 2, 1) := by decide +kernel
theorem dX8_sits_2 : decode cX8_sits 2 = .ok (.iconst 0, 1) := by decide +kernel
theorem dX8_sits_3 : decode cX8_sits 3 = .ok (.istore_n 3, 1) := by decide +kernel
theorem dX8_sits_4 : decode cX8_sits 4 = .ok (.iload_n 3, 1) := by decide +kernel
theorem dX8_sits_5 : decode cX8_sits 5 = .ok (.aload_n 0, 1) := by decide +kernel
theorem dX8_sits_6 : decode cX8_sits 6 = .ok (.getfield 69, 3) := by decide +kernel
theorem dX8_sits_9 : decode cX8_sits 9 = .ok (.iload_n 1, 1) := by decide +kernel
theorem dX8_sits_10 : decode cX8_sits 10 = .ok (.iaload, 1) := by decide +kernel
theorem dX8_sits_11 : decode cX8_sits 11 = .ok (.if_icmp .ge 58, 3) := by decide +kernel
theorem dX8_sits_14 : decode cX8_sits 14 = .ok (.aload_n 0, 1) := by decide +kernel
theorem dX8_sits_15 : decode cX8_sits 15 = .ok (.getfield 72, 3) := by decide +kernel
theorem dX8_sits_18 : decode cX8_sits 18 = .ok (.bipush 40, 2) := by decide +kernel
theorem dX8_sits_20 : decode cX8_sits 20 = .ok (.iload_n 1, 1) := by decide +kernel
theorem dX8_sits_21 : decode cX8_sits 21 = .ok (.imul, 1) := by decide +kernel
theorem dX8_sits_22 : decode cX8_sits 22 = .ok (.iload_n 3, 1) := by decide +kernel
theorem dX8_sits_23 : decode cX8_sits 23 = .ok (.iadd, 1) := by decide +kernel
theorem dX8_sits_24 : decode cX8_sits 24 = .ok (.iaload, 1) := by decide +kernel
theorem dX8_sits_25 : decode cX8_sits 25 = .ok (.istore 4, 2) := by decide +kernel
theorem dX8_sits_27 : decode cX8_sits 27 = .ok (.aload_n 0, 1) := by decide +kernel
theorem dX8_sits_28 : decode cX8_sits 28 = .ok (.iload 4, 2) := by decide +kernel
theorem dX8_sits_30 : decode cX8_sits 30 = .ok (.invokevirtual 89, 3) := by decide +kernel
theorem dX8_sits_33 : decode cX8_sits 33 = .ok (.ifCond .eq 13, 3) := by decide +kernel
theorem dX8_sits_36 : decode cX8_sits 36 = .ok (.iload_n 2, 1) := by decide +kernel
theorem dX8_sits_37 : decode cX8_sits 37 = .ok (.iload 4, 2) := by decide +kernel
theorem dX8_sits_39 : decode cX8_sits 39 = .ok (.ishr, 1) := by decide +kernel
theorem dX8_sits_40 : decode cX8_sits 40 = .ok (.iconst 1, 1) := by decide +kernel
theorem dX8_sits_41 : decode cX8_sits 41 = .ok (.iand, 1) := by decide +kernel
theorem dX8_sits_42 : decode cX8_sits 42 = .ok (.iconst 1, 1) := by decide +kernel
theorem dX8_sits_43 : decode cX8_sits 43 = .ok (.if_icmp .ne 5, 3) := by decide +kernel
theorem dX8_sits_46 : decode cX8_sits 46 = .ok (.iconst 0, 1) := by decide +kernel
theorem dX8_sits_47 : decode cX8_sits 47 = .ok (.ireturn, 1) := by decide +kernel
theorem dX8_sits_48 : decode cX8_sits 48 = .ok (.iload_n 2, 1) := by decide +kernel
theorem dX8_sits_49 : decode cX8_sits 49 = .ok (.iconst 1, 1) := by decide +kernel
theorem dX8_sits_50 : decode cX8_sits 50 = .ok (.iload 4, 2) := by decide +kernel
theorem dX8_sits_52 : decode cX8_sits 52 = .ok (.ishl, 1) := by decide +kernel
theorem dX8_sits_53 : decode cX8_sits 53 = .ok (.ior, 1) := by decide +kernel
theorem dX8_sits_54 : decode cX8_sits 54 = .ok (.istore_n 2, 1) := by decide +kernel
theorem dX8_sits_55 : decode cX8_sits 55 = .ok (.aload_n 0, 1) := by decide +kernel
theorem dX8_sits_56 : decode cX8_sits 56 = .ok (.getfield 41, 3) := by decide +kernel
theorem dX8_sits_59 : decode cX8_sits 59 = .ok (.iload_n 3, 1) := by decide +kernel
theorem dX8_sits_60 : decode cX8_sits 60 = .ok (.iload 4, 2) := by decide +kernel
theorem dX8_sits_62 : decode cX8_sits 62 = .ok (.iastore, 1) := by decide +kernel
theorem dX8_sits_63 : decode cX8_sits 63 = .ok (.iinc 3 1, 3) := by decide +kernel
theorem dX8_sits_66 : decode cX8_sits 66 = .ok (.goto (-62), 3) := by decide +kernel
theorem dX8_sits_69 : decode cX8_sits 69 = .ok (.aload_n 0, 1) := by decide +kernel
theorem dX8_sits_70 : decode cX8_sits 70 = .ok (.aload_n 0, 1) := by decide +kernel
theorem dX8_sits_71 : decode cX8_sits 71 = .ok (.getfield 69, 3) := by decide +kernel
theorem dX8_sits_74 : decode cX8_sits 74 = .ok (.iload_n 1, 1) := by decide +kernel
theorem dX8_sits_75 : decode cX8_sits 75 = .ok (.iaload, 1) := by decide +kernel
theorem dX8_sits_76 : decode cX8_sits 76 = .ok (.putfield 255, 3) := by decide +kernel
theorem dX8_sits_79 : decode cX8_sits 79 = .ok (.iconst 1, 1) := by decide +kernel
theorem dX8_sits_80 : decode cX8_sits 80 = .ok (.ireturn, 1) := by decide +kernel
theorem dX8_table_0 : decode cX8_table 0 = .ok (.iload_n 1, 1) := by decide +kernel
theorem dX8_table_1 : decode cX8_table 1 = .ok (.invokestatic 299, 3) := by decide +kernel
theorem dX8_table_4 : decode cX8_table 4 = .ok (.ifCond .eq 32, 3) := by decide +kernel
theorem dX8_table_7 : decode cX8_table 7 = .ok (.iload_n 2, 1) := by decide +kernel
theorem dX8_table_8 : decode cX8_table 8 = .ok (.i2l, 1) := by decide +kernel
theorem dX8_table_9 : decode cX8_table 9 = .ok (.lconst 0, 1) := by decide +kernel
theorem dX8_table_10 : decode cX8_table 10 = .ok (.ldc2_w 302, 3) := by decide +kernel
theorem dX8_table_13 : decode cX8_table 13 = .ok (.invokestatic 85, 3) := by decide +kernel
theorem dX8_table_16 : decode cX8_table 16 = .ok (.ifCond .eq 20, 3) := by decide +kernel
theorem dX8_table_19 : decode cX8_table 19 = .ok (.aload_n 0, 1) := by decide +kernel
theorem dX8_table_20 : decode cX8_table 20 = .ok (.getfield 62, 3) := by decide +kernel
theorem dX8_table_23 : decode cX8_table 23 = .ok (.iload_n 1, 1) := by decide +kernel
theorem dX8_table_24 : decode cX8_table 24 = .ok (.baload, 1) := by decide +kernel
theorem dX8_table_25 : decode cX8_table 25 = .ok (.ifCond .eq 11, 3) := by decide +kernel
theorem dX8_table_28 : decode cX8_table 28 = .ok (.aload_n 0, 1) := by decide +kernel
theorem dX8_table_29 : decode cX8_table 29 = .ok (.iload_n 1, 1) := by decide +kernel
theorem dX8_table_30 : decode cX8_table 30 = .ok (.invokevirtual 304, 3) := by decide +kernel
theorem dX8_table_33 : decode cX8_table 33 = .ok (.ifCond .ne 7, 3) := by decide +kernel
theorem dX8_table_36 : decode cX8_table 36 = .ok (.ldc_w 307, 3) := by decide +kernel
theorem dX8_table_39 : decode cX8_table 39 = .ok (.ireturn, 1) := by decide +kernel
theorem dX8_table_40 : decode cX8_table 40 = .ok (.iload_n 2, 1) := by decide +kernel
theorem dX8_table_41 : decode cX8_table 41 = .ok (.ifCond .ne 19, 3) := by decide +kernel
theorem dX8_table_44 : decode cX8_table 44 = .ok (.aload_n 0, 1) := by decide +kernel
theorem dX8_table_45 : decode cX8_table 45 = .ok (.invokevirtual 308, 3) := by decide +kernel
theorem dX8_table_48 : decode cX8_table 48 = .ok (.iconst (-1), 1) := by decide +kernel
theorem dX8_table_49 : decode cX8_table 49 = .ok (.if_icmp .ne 7, 3) := by decide +kernel
theorem dX8_table_52 : decode cX8_table 52 = .ok (.iconst 1, 1) := by decide +kernel
theorem dX8_table_53 : decode cX8_table 53 = .ok (.goto 23, 3) := by decide +kernel
theorem dX8_table_56 : decode cX8_table 56 = .ok (.iconst 0, 1) := by decide +kernel
theorem dX8_table_57 : decode cX8_table 57 = .ok (.goto 19, 3) := by decide +kernel
theorem dX8_table_60 : decode cX8_table 60 = .ok (.iload_n 2, 1) := by decide +kernel
theorem dX8_table_61 : decode cX8_table 61 = .ok (.iconst 1, 1) := by decide +kernel
theorem dX8_table_62 : decode cX8_table 62 = .ok (.if_icmp .ne 10, 3) := by decide +kernel
theorem dX8_table_65 : decode cX8_table 65 = .ok (.aload_n 0, 1) := by decide +kernel
theorem dX8_table_66 : decode cX8_table 66 = .ok (.invokevirtual 311, 3) := by decide +kernel
theorem dX8_table_69 : decode cX8_table 69 = .ok (.goto 7, 3) := by decide +kernel
theorem dX8_table_72 : decode cX8_table 72 = .ok (.aload_n 0, 1) := by decide +kernel
theorem dX8_table_73 : decode cX8_table 73 = .ok (.invokevirtual 314, 3) := by decide +kernel
theorem dX8_table_76 : decode cX8_table 76 = .ok (.ireturn, 1) := by decide +kernel
theorem dX8_dine_0 : decode cX8_dine 0 = .ok (.iload_n 1, 1) := by decide +kernel
theorem dX8_dine_1 : decode cX8_dine 1 = .ok (.invokestatic 299, 3) := by decide +kernel
theorem dX8_dine_4 : decode cX8_dine 4 = .ok (.ifCond .ne 6, 3) := by decide +kernel
theorem dX8_dine_7 : decode cX8_dine 7 = .ok (.bipush (-2), 2) := by decide +kernel
theorem dX8_dine_9 : decode cX8_dine 9 = .ok (.ireturn, 1) := by decide +kernel
theorem dX8_dine_10 : decode cX8_dine 10 = .ok (.aload_n 0, 1) := by decide +kernel
theorem dX8_dine_11 : decode cX8_dine 11 = .ok (.getfield 62, 3) := by decide +kernel
theorem dX8_dine_14 : decode cX8_dine 14 = .ok (.iload_n 1, 1) := by decide +kernel
theorem dX8_dine_15 : decode cX8_dine 15 = .ok (.baload, 1) := by decide +kernel
theorem dX8_dine_16 : decode cX8_dine 16 = .ok (.ifCond .ne 6, 3) := by decide +kernel
theorem dX8_dine_19 : decode cX8_dine 19 = .ok (.bipush (-11), 2) := by decide +kernel
theorem dX8_dine_21 : decode cX8_dine 21 = .ok (.ireturn, 1) := by decide +kernel
theorem dX8_dine_22 : decode cX8_dine 22 = .ok (.aload_n 0, 1) := by decide +kernel
theorem dX8_dine_23 : decode cX8_dine 23 = .ok (.iload_n 1, 1) := by decide +kernel
theorem dX8_dine_24 : decode cX8_dine 24 = .ok (.invokevirtual 304, 3) := by decide +kernel
theorem dX8_dine_27 : decode cX8_dine 27 = .ok (.ifCond .ne 6, 3) := by decide +kernel
theorem dX8_dine_30 : decode cX8_dine 30 = .ok (.bipush (-2), 2) := by decide +kernel
theorem dX8_dine_32 : decode cX8_dine 32 = .ok (.ireturn, 1) := by decide +kernel
theorem dX8_dine_33 : decode cX8_dine 33 = .ok (.aload_n 0, 1) := by decide +kernel
theorem dX8_dine_34 : decode cX8_dine 34 = .ok (.getfield 111, 3) := by decide +kernel
theorem dX8_dine_37 : decode cX8_dine 37 = .ok (.sipush 999, 3) := by decide +kernel
theorem dX8_dine_40 : decode cX8_dine 40 = .ok (.if_icmp .ne 6, 3) := by decide +kernel
theorem dX8_dine_43 : decode cX8_dine 43 = .ok (.bipush (-3), 2) := by decide +kernel
theorem dX8_dine_45 : decode cX8_dine 45 = .ok (.ireturn, 1) := by decide +kernel
theorem dX8_dine_46 : decode cX8_dine 46 = .ok (.aload_n 0, 1) := by decide +kernel
theorem dX8_dine_47 : decode cX8_dine 47 = .ok (.invokevirtual 290, 3) := by decide +kernel
theorem dX8_dine_50 : decode cX8_dine 50 = .ok (.aload_n 0, 1) := by decide +kernel
theorem dX8_dine_51 : decode cX8_dine 51 = .ok (.dup, 1) := by decide +kernel
theorem dX8_dine_52 : decode cX8_dine 52 = .ok (.getfield 111, 3) := by decide +kernel
theorem dX8_dine_55 : decode cX8_dine 55 = .ok (.iconst 1, 1) := by decide +kernel
theorem dX8_dine_56 : decode cX8_dine 56 = .ok (.iadd, 1) := by decide +kernel
theorem dX8_dine_57 : decode cX8_dine 57 = .ok (.putfield 111, 3) := by decide +kernel
theorem dX8_dine_60 : decode cX8_dine 60 = .ok (.aload_n 0, 1) := by decide +kernel
theorem dX8_dine_61 : decode cX8_dine 61 = .ok (.invokevirtual 293, 3) := by decide +kernel
theorem dX8_dine_64 : decode cX8_dine 64 = .ok (.ireturn, 1) := by decide +kernel
theorem dX8_begins_0 : decode cX8_begins 0 = .ok (.aload_n 0, 1) := by decide +kernel
theorem dX8_begins_1 : decode cX8_begins 1 = .ok (.iconst 0, 1) := by decide +kernel
theorem dX8_begins_2 : decode cX8_begins 2 = .ok (.putfield 317, 3) := by decide +kernel
theorem dX8_begins_5 : decode cX8_begins 5 = .ok (.aload_n 0, 1) := by decide +kernel
theorem dX8_begins_6 : decode cX8_begins 6 = .ok (.iconst 0, 1) := by decide +kernel
theorem dX8_begins_7 : decode cX8_begins 7 = .ok (.putfield 320, 3) := by decide +kernel
theorem dX8_begins_10 : decode cX8_begins 10 = .ok (.aload_n 0, 1) := by decide +kernel
theorem dX8_begins_11 : decode cX8_begins 11 = .ok (.iconst 0, 1) := by decide +kernel
theorem dX8_begins_12 : decode cX8_begins 12 = .ok (.putfield 323, 3) := by decide +kernel
theorem dX8_begins_15 : decode cX8_begins 15 = .ok (.aload_n 0, 1) := by decide +kernel
theorem dX8_begins_16 : decode cX8_begins 16 = .ok (.iconst 0, 1) := by decide +kernel
theorem dX8_begins_17 : decode cX8_begins 17 = .ok (.putfield 326, 3) := by decide +kernel
theorem dX8_begins_20 : decode cX8_begins 20 = .ok (.aload_n 0, 1) := by decide +kernel
theorem dX8_begins_21 : decode cX8_begins 21 = .ok (.iconst (-1), 1) := by decide +kernel
theorem dX8_begins_22 : decode cX8_begins 22 = .ok (.putfield 329, 3) := by decide +kernel
theorem dX8_begins_25 : decode cX8_begins 25 = .ok (.aload_n 0, 1) := by decide +kernel
theorem dX8_begins_26 : decode cX8_begins 26 = .ok (.iload_n 1, 1) := by decide +kernel
theorem dX8_begins_27 : decode cX8_begins 27 = .ok (.putfield 332, 3) := by decide +kernel
theorem dX8_begins_30 : decode cX8_begins 30 = .ok (.aload_n 0, 1) := by decide +kernel
theorem dX8_begins_31 : decode cX8_begins 31 = .ok (.iload_n 2, 1) := by decide +kernel
theorem dX8_begins_32 : decode cX8_begins 32 = .ok (.putfield 335, 3) := by decide +kernel
theorem dX8_begins_35 : decode cX8_begins 35 = .ok (.return_, 1) := by decide +kernel
theorem dX8_digits_0 : decode cX8_digits 0 = .ok (.iconst 0, 1) := by decide +kernel
theorem dX8_digits_1 : decode cX8_digits 1 = .ok (.istore_n 1, 1) := by decide +kernel
theorem dX8_digits_2 : decode cX8_digits 2 = .ok (.iconst 0, 1) := by decide +kernel
theorem dX8_digits_3 : decode cX8_digits 3 = .ok (.istore_n 2, 1) := by decide +kernel
theorem dX8_digits_4 : decode cX8_digits 4 = .ok (.iload_n 2, 1) := by decide +kernel
theorem dX8_digits_5 : decode cX8_digits 5 = .ok (.aload_n 0, 1) := by decide +kernel
theorem dX8_digits_6 : decode cX8_digits 6 = .ok (.getfield 255, 3) := by decide +kernel
theorem dX8_digits_9 : decode cX8_digits 9 = .ok (.if_icmp .ge 23, 3) := by decide +kernel
theorem dX8_digits_12 : decode cX8_digits 12 = .ok (.bipush 10, 2) := by decide +kernel
theorem dX8_digits_14 : decode cX8_digits 14 = .ok (.iload_n 1, 1) := by decide +kernel
theorem dX8_digits_15 : decode cX8_digits 15 = .ok (.imul, 1) := by decide +kernel
theorem dX8_digits_16 : decode cX8_digits 16 = .ok (.aload_n 0, 1) := by decide +kernel
theorem dX8_digits_17 : decode cX8_digits 17 = .ok (.getfield 41, 3) := by decide +kernel
theorem dX8_digits_20 : decode cX8_digits 20 = .ok (.iload_n 2, 1) := by decide +kernel
theorem dX8_digits_21 : decode cX8_digits 21 = .ok (.iaload, 1) := by decide +kernel
theorem dX8_digits_22 : decode cX8_digits 22 = .ok (.iadd, 1) := by decide +kernel
theorem dX8_digits_23 : decode cX8_digits 23 = .ok (.iconst 1, 1) := by decide +kernel
theorem dX8_digits_24 : decode cX8_digits 24 = .ok (.iadd, 1) := by decide +kernel
theorem dX8_digits_25 : decode cX8_digits 25 = .ok (.istore_n 1, 1) := by decide +kernel
theorem dX8_digits_26 : decode cX8_digits 26 = .ok (.iinc 2 1, 3) := by decide +kernel
theorem dX8_digits_29 : decode cX8_digits 29 = .ok (.goto (-25), 3) := by decide +kernel
theorem dX8_digits_32 : decode cX8_digits 32 = .ok (.iload_n 1, 1) := by decide +kernel
theorem dX8_digits_33 : decode cX8_digits 33 = .ok (.ireturn, 1) := by decide +kernel
theorem dX8_looks_0 : decode cX8_looks 0 = .ok (.aload_n 0, 1) := by decide +kernel
theorem dX8_looks_1 : decode cX8_looks 1 = .ok (.invokevirtual 308, 3) := by decide +kernel
theorem dX8_looks_4 : decode cX8_looks 4 = .ok (.iconst (-1), 1) := by decide +kernel
theorem dX8_looks_5 : decode cX8_looks 5 = .ok (.if_icmp .eq 4, 3) := by decide +kernel
theorem dX8_looks_8 : decode cX8_looks 8 = .ok (.return_, 1) := by decide +kernel
theorem dX8_looks_9 : decode cX8_looks 9 = .ok (.aload_n 0, 1) := by decide +kernel
theorem dX8_looks_10 : decode cX8_looks 10 = .ok (.dup, 1) := by decide +kernel
theorem dX8_looks_11 : decode cX8_looks 11 = .ok (.getfield 317, 3) := by decide +kernel
theorem dX8_looks_14 : decode cX8_looks 14 = .ok (.iconst 1, 1) := by decide +kernel
theorem dX8_looks_15 : decode cX8_looks 15 = .ok (.iadd, 1) := by decide +kernel
theorem dX8_looks_16 : decode cX8_looks 16 = .ok (.putfield 317, 3) := by decide +kernel
theorem dX8_looks_19 : decode cX8_looks 19 = .ok (.aload_n 0, 1) := by decide +kernel
theorem dX8_looks_20 : decode cX8_looks 20 = .ok (.getfield 332, 3) := by decide +kernel
theorem dX8_looks_23 : decode cX8_looks 23 = .ok (.ifCond .eq 4, 3) := by decide +kernel
theorem dX8_looks_26 : decode cX8_looks 26 = .ok (.return_, 1) := by decide +kernel
theorem dX8_looks_27 : decode cX8_looks 27 = .ok (.aload_n 0, 1) := by decide +kernel
theorem dX8_looks_28 : decode cX8_looks 28 = .ok (.invokevirtual 311, 3) := by decide +kernel
theorem dX8_looks_31 : decode cX8_looks 31 = .ok (.istore_n 1, 1) := by decide +kernel
theorem dX8_looks_32 : decode cX8_looks 32 = .ok (.aload_n 0, 1) := by decide +kernel
theorem dX8_looks_33 : decode cX8_looks 33 = .ok (.getfield 317, 3) := by decide +kernel
theorem dX8_looks_36 : decode cX8_looks 36 = .ok (.iconst 1, 1) := by decide +kernel
theorem dX8_looks_37 : decode cX8_looks 37 = .ok (.if_icmp .eq 11, 3) := by decide +kernel
theorem dX8_looks_40 : decode cX8_looks 40 = .ok (.iload_n 1, 1) := by decide +kernel
theorem dX8_looks_41 : decode cX8_looks 41 = .ok (.aload_n 0, 1) := by decide +kernel
theorem dX8_looks_42 : decode cX8_looks 42 = .ok (.getfield 323, 3) := by decide +kernel
theorem dX8_looks_45 : decode cX8_looks 45 = .ok (.if_icmp .le 16, 3) := by decide +kernel
theorem dX8_looks_48 : decode cX8_looks 48 = .ok (.aload_n 0, 1) := by decide +kernel
theorem dX8_looks_49 : decode cX8_looks 49 = .ok (.aload_n 0, 1) := by decide +kernel
theorem dX8_looks_50 : decode cX8_looks 50 = .ok (.invokevirtual 338, 3) := by decide +kernel
theorem dX8_looks_53 : decode cX8_looks 53 = .ok (.putfield 320, 3) := by decide +kernel
theorem dX8_looks_56 : decode cX8_looks 56 = .ok (.aload_n 0, 1) := by decide +kernel
theorem dX8_looks_57 : decode cX8_looks 57 = .ok (.iload_n 1, 1) := by decide +kernel
theorem dX8_looks_58 : decode cX8_looks 58 = .ok (.putfield 323, 3) := by decide +kernel
theorem dX8_looks_61 : decode cX8_looks 61 = .ok (.aload_n 0, 1) := by decide +kernel
theorem dX8_looks_62 : decode cX8_looks 62 = .ok (.getfield 335, 3) := by decide +kernel
theorem dX8_looks_65 : decode cX8_looks 65 = .ok (.ifCond .eq 37, 3) := by decide +kernel
theorem dX8_looks_68 : decode cX8_looks 68 = .ok (.aload_n 0, 1) := by decide +kernel
theorem dX8_looks_69 : decode cX8_looks 69 = .ok (.invokevirtual 314, 3) := by decide +kernel
theorem dX8_looks_72 : decode cX8_looks 72 = .ok (.istore_n 2, 1) := by decide +kernel
theorem dX8_looks_73 : decode cX8_looks 73 = .ok (.aload_n 0, 1) := by decide +kernel
theorem dX8_looks_74 : decode cX8_looks 74 = .ok (.getfield 329, 3) := by decide +kernel
theorem dX8_looks_77 : decode cX8_looks 77 = .ok (.iconst (-1), 1) := by decide +kernel
theorem dX8_looks_78 : decode cX8_looks 78 = .ok (.if_icmp .eq 11, 3) := by decide +kernel
theorem dX8_looks_81 : decode cX8_looks 81 = .ok (.iload_n 2, 1) := by decide +kernel
theorem dX8_looks_82 : decode cX8_looks 82 = .ok (.aload_n 0, 1) := by decide +kernel
theorem dX8_looks_83 : decode cX8_looks 83 = .ok (.getfield 329, 3) := by decide +kernel
theorem dX8_looks_86 : decode cX8_looks 86 = .ok (.if_icmp .ge 16, 3) := by decide +kernel
theorem dX8_looks_89 : decode cX8_looks 89 = .ok (.aload_n 0, 1) := by decide +kernel
theorem dX8_looks_90 : decode cX8_looks 90 = .ok (.aload_n 0, 1) := by decide +kernel
theorem dX8_looks_91 : decode cX8_looks 91 = .ok (.invokevirtual 338, 3) := by decide +kernel
theorem dX8_looks_94 : decode cX8_looks 94 = .ok (.putfield 326, 3) := by decide +kernel
theorem dX8_looks_97 : decode cX8_looks 97 = .ok (.aload_n 0, 1) := by decide +kernel
theorem dX8_looks_98 : decode cX8_looks 98 = .ok (.iload_n 2, 1) := by decide +kernel
theorem dX8_looks_99 : decode cX8_looks 99 = .ok (.putfield 329, 3) := by decide +kernel
theorem dX8_looks_102 : decode cX8_looks 102 = .ok (.return_, 1) := by decide +kernel
theorem dX8_seeks_0 : decode cX8_seeks 0 = .ok (.iload_n 2, 1) := by decide +kernel
theorem dX8_seeks_1 : decode cX8_seeks 1 = .ok (.ifCond .ne 8, 3) := by decide +kernel
theorem dX8_seeks_4 : decode cX8_seeks 4 = .ok (.aload_n 0, 1) := by decide +kernel
theorem dX8_seeks_5 : decode cX8_seeks 5 = .ok (.invokevirtual 341, 3) := by decide +kernel
theorem dX8_seeks_8 : decode cX8_seeks 8 = .ok (.return_, 1) := by decide +kernel
theorem dX8_seeks_9 : decode cX8_seeks 9 = .ok (.aload_n 0, 1) := by decide +kernel
theorem dX8_seeks_10 : decode cX8_seeks 10 = .ok (.getfield 332, 3) := by decide +kernel
theorem dX8_seeks_13 : decode cX8_seeks 13 = .ok (.ifCond .eq 11, 3) := by decide +kernel
theorem dX8_seeks_16 : decode cX8_seeks 16 = .ok (.aload_n 0, 1) := by decide +kernel
theorem dX8_seeks_17 : decode cX8_seeks 17 = .ok (.getfield 317, 3) := by decide +kernel
theorem dX8_seeks_20 : decode cX8_seeks 20 = .ok (.ifCond .le 4, 3) := by decide +kernel
theorem dX8_seeks_23 : decode cX8_seeks 23 = .ok (.return_, 1) := by decide +kernel
theorem dX8_seeks_24 : decode cX8_seeks 24 = .ok (.iconst 0, 1) := by decide +kernel
theorem dX8_seeks_25 : decode cX8_seeks 25 = .ok (.istore_n 3, 1) := by decide +kernel
theorem dX8_seeks_26 : decode cX8_seeks 26 = .ok (.iload_n 3, 1) := by decide +kernel
theorem dX8_seeks_27 : decode cX8_seeks 27 = .ok (.aload_n 0, 1) := by decide +kernel
theorem dX8_seeks_28 : decode cX8_seeks 28 = .ok (.getfield 82, 3) := by decide +kernel
theorem dX8_seeks_31 : decode cX8_seeks 31 = .ok (.if_icmp .ge 52, 3) := by decide +kernel
theorem dX8_seeks_34 : decode cX8_seeks 34 = .ok (.iload_n 2, 1) := by decide +kernel
theorem dX8_seeks_35 : decode cX8_seeks 35 = .ok (.iload_n 3, 1) := by decide +kernel
theorem dX8_seeks_36 : decode cX8_seeks 36 = .ok (.ishr, 1) := by decide +kernel
theorem dX8_seeks_37 : decode cX8_seeks 37 = .ok (.iconst 1, 1) := by decide +kernel
theorem dX8_seeks_38 : decode cX8_seeks 38 = .ok (.iand, 1) := by decide +kernel
theorem dX8_seeks_39 : decode cX8_seeks 39 = .ok (.iconst 1, 1) := by decide +kernel
theorem dX8_seeks_40 : decode cX8_seeks 40 = .ok (.if_icmp .ne 37, 3) := by decide +kernel
theorem dX8_seeks_43 : decode cX8_seeks 43 = .ok (.aload_n 0, 1) := by decide +kernel
theorem dX8_seeks_44 : decode cX8_seeks 44 = .ok (.getfield 41, 3) := by decide +kernel
theorem dX8_seeks_47 : decode cX8_seeks 47 = .ok (.iload_n 1, 1) := by decide +kernel
theorem dX8_seeks_48 : decode cX8_seeks 48 = .ok (.iload_n 3, 1) := by decide +kernel
theorem dX8_seeks_49 : decode cX8_seeks 49 = .ok (.iastore, 1) := by decide +kernel
theorem dX8_seeks_50 : decode cX8_seeks 50 = .ok (.aload_n 0, 1) := by decide +kernel
theorem dX8_seeks_51 : decode cX8_seeks 51 = .ok (.iload_n 1, 1) := by decide +kernel
theorem dX8_seeks_52 : decode cX8_seeks 52 = .ok (.iconst 1, 1) := by decide +kernel
theorem dX8_seeks_53 : decode cX8_seeks 53 = .ok (.iadd, 1) := by decide +kernel
theorem dX8_seeks_54 : decode cX8_seeks 54 = .ok (.iload_n 2, 1) := by decide +kernel
theorem dX8_seeks_55 : decode cX8_seeks 55 = .ok (.iconst 1, 1) := by decide +kernel
theorem dX8_seeks_56 : decode cX8_seeks 56 = .ok (.iload_n 3, 1) := by decide +kernel
theorem dX8_seeks_57 : decode cX8_seeks 57 = .ok (.ishl, 1) := by decide +kernel
theorem dX8_seeks_58 : decode cX8_seeks 58 = .ok (.iconst (-1), 1) := by decide +kernel
theorem dX8_seeks_59 : decode cX8_seeks 59 = .ok (.ixor, 1) := by decide +kernel
theorem dX8_seeks_60 : decode cX8_seeks 60 = .ok (.iand, 1) := by decide +kernel
theorem dX8_seeks_61 : decode cX8_seeks 61 = .ok (.invokevirtual 344, 3) := by decide +kernel
theorem dX8_seeks_64 : decode cX8_seeks 64 = .ok (.iload_n 1, 1) := by decide +kernel
theorem dX8_seeks_65 : decode cX8_seeks 65 = .ok (.ifCond .ne 12, 3) := by decide +kernel
theorem dX8_seeks_68 : decode cX8_seeks 68 = .ok (.aload_n 0, 1) := by decide +kernel
theorem dX8_seeks_69 : decode cX8_seeks 69 = .ok (.getfield 23, 3) := by decide +kernel
theorem dX8_seeks_72 : decode cX8_seeks 72 = .ok (.iconst 1, 1) := by decide +kernel
theorem dX8_seeks_73 : decode cX8_seeks 73 = .ok (.if_icmp .ne 4, 3) := by decide +kernel
theorem dX8_seeks_76 : decode cX8_seeks 76 = .ok (.return_, 1) := by decide +kernel
theorem dX8_seeks_77 : decode cX8_seeks 77 = .ok (.iinc 3 1, 3) := by decide +kernel
theorem dX8_seeks_80 : decode cX8_seeks 80 = .ok (.goto (-54), 3) := by decide +kernel
theorem dX8_seeks_83 : decode cX8_seeks 83 = .ok (.return_, 1) := by decide +kernel
theorem dX8_seeksAll_0 : decode cX8_seeksAll 0 = .ok (.aload_n 0, 1) := by decide +kernel
theorem dX8_seeksAll_1 : decode cX8_seeksAll 1 = .ok (.iload_n 2, 1) := by decide +kernel
theorem dX8_seeksAll_2 : decode cX8_seeksAll 2 = .ok (.iload_n 3, 1) := by decide +kernel
theorem dX8_seeksAll_3 : decode cX8_seeksAll 3 = .ok (.invokevirtual 347, 3) := by decide +kernel
theorem dX8_seeksAll_6 : decode cX8_seeksAll 6 = .ok (.aload_n 0, 1) := by decide +kernel
theorem dX8_seeksAll_7 : decode cX8_seeksAll 7 = .ok (.iload_n 1, 1) := by decide +kernel
theorem dX8_seeksAll_8 : decode cX8_seeksAll 8 = .ok (.invokestatic 351, 3) := by decide +kernel
theorem dX8_seeksAll_11 : decode cX8_seeksAll 11 = .ok (.putfield 255, 3) := by decide +kernel
theorem dX8_seeksAll_14 : decode cX8_seeksAll 14 = .ok (.aload_n 0, 1) := by decide +kernel
theorem dX8_seeksAll_15 : decode cX8_seeksAll 15 = .ok (.iconst 0, 1) := by decide +kernel
theorem dX8_seeksAll_16 : decode cX8_seeksAll 16 = .ok (.iload_n 1, 1) := by decide +kernel
theorem dX8_seeksAll_17 : decode cX8_seeksAll 17 = .ok (.invokevirtual 344, 3) := by decide +kernel
theorem dX8_seeksAll_20 : decode cX8_seeksAll 20 = .ok (.return_, 1) := by decide +kernel
theorem dX8_bitsOf_0 : decode cX8_bitsOf 0 = .ok (.iconst 0, 1) := by decide +kernel
theorem dX8_bitsOf_1 : decode cX8_bitsOf 1 = .ok (.istore_n 1, 1) := by decide +kernel
theorem dX8_bitsOf_2 : decode cX8_bitsOf 2 = .ok (.iload_n 0, 1) := by decide +kernel
theorem dX8_bitsOf_3 : decode cX8_bitsOf 3 = .ok (.istore_n 2, 1) := by decide +kernel
theorem dX8_bitsOf_4 : decode cX8_bitsOf 4 = .ok (.iload_n 2, 1) := by decide +kernel
theorem dX8_bitsOf_5 : decode cX8_bitsOf 5 = .ok (.ifCond .eq 15, 3) := by decide +kernel
theorem dX8_bitsOf_8 : decode cX8_bitsOf 8 = .ok (.iinc 1 1, 3) := by decide +kernel
theorem dX8_bitsOf_11 : decode cX8_bitsOf 11 = .ok (.iload_n 2, 1) := by decide +kernel
theorem dX8_bitsOf_12 : decode cX8_bitsOf 12 = .ok (.iload_n 2, 1) := by decide +kernel
theorem dX8_bitsOf_13 : decode cX8_bitsOf 13 = .ok (.iconst 1, 1) := by decide +kernel
theorem dX8_bitsOf_14 : decode cX8_bitsOf 14 = .ok (.isub, 1) := by decide +kernel
theorem dX8_bitsOf_15 : decode cX8_bitsOf 15 = .ok (.iand, 1) := by decide +kernel
theorem dX8_bitsOf_16 : decode cX8_bitsOf 16 = .ok (.istore_n 2, 1) := by decide +kernel
theorem dX8_bitsOf_17 : decode cX8_bitsOf 17 = .ok (.goto (-13), 3) := by decide +kernel
theorem dX8_bitsOf_20 : decode cX8_bitsOf 20 = .ok (.iload_n 1, 1) := by decide +kernel
theorem dX8_bitsOf_21 : decode cX8_bitsOf 21 = .ok (.ireturn, 1) := by decide +kernel
theorem dX8_everybody_0 : decode cX8_everybody 0 = .ok (.iconst 1, 1) := by decide +kernel
theorem dX8_everybody_1 : decode cX8_everybody 1 = .ok (.aload_n 0, 1) := by decide +kernel
theorem dX8_everybody_2 : decode cX8_everybody 2 = .ok (.getfield 82, 3) := by decide +kernel
theorem dX8_everybody_5 : decode cX8_everybody 5 = .ok (.ishl, 1) := by decide +kernel
theorem dX8_everybody_6 : decode cX8_everybody 6 = .ok (.iconst 1, 1) := by decide +kernel
theorem dX8_everybody_7 : decode cX8_everybody 7 = .ok (.isub, 1) := by decide +kernel
theorem dX8_everybody_8 : decode cX8_everybody 8 = .ok (.ireturn, 1) := by decide +kernel
theorem dX8_tables_0 : decode cX8_tables 0 = .ok (.iload_n 1, 1) := by decide +kernel
theorem dX8_tables_1 : decode cX8_tables 1 = .ok (.i2l, 1) := by decide +kernel
theorem dX8_tables_2 : decode cX8_tables 2 = .ok (.lconst 0, 1) := by decide +kernel
theorem dX8_tables_3 : decode cX8_tables 3 = .ok (.ldc2_w 354, 3) := by decide +kernel
theorem dX8_tables_6 : decode cX8_tables 6 = .ok (.invokestatic 85, 3) := by decide +kernel
theorem dX8_tables_9 : decode cX8_tables 9 = .ok (.ifCond .ne 6, 3) := by decide +kernel
theorem dX8_tables_12 : decode cX8_tables 12 = .ok (.bipush (-2), 2) := by decide +kernel
theorem dX8_tables_14 : decode cX8_tables 14 = .ok (.ireturn, 1) := by decide +kernel
theorem dX8_tables_15 : decode cX8_tables 15 = .ok (.aload_n 0, 1) := by decide +kernel
theorem dX8_tables_16 : decode cX8_tables 16 = .ok (.aload_n 0, 1) := by decide +kernel
theorem dX8_tables_17 : decode cX8_tables 17 = .ok (.invokevirtual 356, 3) := by decide +kernel
theorem dX8_tables_20 : decode cX8_tables 20 = .ok (.iconst 0, 1) := by decide +kernel
theorem dX8_tables_21 : decode cX8_tables 21 = .ok (.iload_n 1, 1) := by decide +kernel
theorem dX8_tables_22 : decode cX8_tables 22 = .ok (.iconst 2, 1) := by decide +kernel
theorem dX8_tables_23 : decode cX8_tables 23 = .ok (.if_icmp .le 7, 3) := by decide +kernel
theorem dX8_tables_26 : decode cX8_tables 26 = .ok (.iconst 1, 1) := by decide +kernel
theorem dX8_tables_27 : decode cX8_tables 27 = .ok (.goto 4, 3) := by decide +kernel
theorem dX8_tables_30 : decode cX8_tables 30 = .ok (.iconst 0, 1) := by decide +kernel
theorem dX8_tables_31 : decode cX8_tables 31 = .ok (.invokevirtual 359, 3) := by decide +kernel
theorem dX8_tables_34 : decode cX8_tables 34 = .ok (.iload_n 1, 1) := by decide +kernel
theorem dX8_tables_35 : decode cX8_tables 35 = .ok (.ifCond .ne 10, 3) := by decide +kernel
theorem dX8_tables_38 : decode cX8_tables 38 = .ok (.aload_n 0, 1) := by decide +kernel
theorem dX8_tables_39 : decode cX8_tables 39 = .ok (.getfield 317, 3) := by decide +kernel
theorem dX8_tables_42 : decode cX8_tables 42 = .ok (.goto 43, 3) := by decide +kernel
theorem dX8_tables_45 : decode cX8_tables 45 = .ok (.iload_n 1, 1) := by decide +kernel
theorem dX8_tables_46 : decode cX8_tables 46 = .ok (.iconst 1, 1) := by decide +kernel
theorem dX8_tables_47 : decode cX8_tables 47 = .ok (.if_icmp .ne 10, 3) := by decide +kernel
theorem dX8_tables_50 : decode cX8_tables 50 = .ok (.aload_n 0, 1) := by decide +kernel
theorem dX8_tables_51 : decode cX8_tables 51 = .ok (.getfield 320, 3) := by decide +kernel
theorem dX8_tables_54 : decode cX8_tables 54 = .ok (.goto 31, 3) := by decide +kernel
theorem dX8_tables_57 : decode cX8_tables 57 = .ok (.iload_n 1, 1) := by decide +kernel
theorem dX8_tables_58 : decode cX8_tables 58 = .ok (.iconst 2, 1) := by decide +kernel
theorem dX8_tables_59 : decode cX8_tables 59 = .ok (.if_icmp .ne 10, 3) := by decide +kernel
theorem dX8_tables_62 : decode cX8_tables 62 = .ok (.aload_n 0, 1) := by decide +kernel
theorem dX8_tables_63 : decode cX8_tables 63 = .ok (.getfield 323, 3) := by decide +kernel
theorem dX8_tables_66 : decode cX8_tables 66 = .ok (.goto 19, 3) := by decide +kernel
theorem dX8_tables_69 : decode cX8_tables 69 = .ok (.iload_n 1, 1) := by decide +kernel
theorem dX8_tables_70 : decode cX8_tables 70 = .ok (.iconst 3, 1) := by decide +kernel
theorem dX8_tables_71 : decode cX8_tables 71 = .ok (.if_icmp .ne 10, 3) := by decide +kernel
theorem dX8_tables_74 : decode cX8_tables 74 = .ok (.aload_n 0, 1) := by decide +kernel
theorem dX8_tables_75 : decode cX8_tables 75 = .ok (.getfield 326, 3) := by decide +kernel
theorem dX8_tables_78 : decode cX8_tables 78 = .ok (.goto 7, 3) := by decide +kernel
theorem dX8_tables_81 : decode cX8_tables 81 = .ok (.aload_n 0, 1) := by decide +kernel
theorem dX8_tables_82 : decode cX8_tables 82 = .ok (.getfield 329, 3) := by decide +kernel
theorem dX8_tables_85 : decode cX8_tables 85 = .ok (.ireturn, 1) := by decide +kernel
theorem dX8_isAny_0 : decode cX8_isAny 0 = .ok (.aload_n 0, 1) := by decide +kernel
theorem dX8_isAny_1 : decode cX8_isAny 1 = .ok (.iload_n 1, 1) := by decide +kernel
theorem dX8_isAny_2 : decode cX8_isAny 2 = .ok (.iconst 1, 1) := by decide +kernel
theorem dX8_isAny_3 : decode cX8_isAny 3 = .ok (.iconst 0, 1) := by decide +kernel
theorem dX8_isAny_4 : decode cX8_isAny 4 = .ok (.invokevirtual 359, 3) := by decide +kernel
theorem dX8_isAny_7 : decode cX8_isAny 7 = .ok (.aload_n 0, 1) := by decide +kernel
theorem dX8_isAny_8 : decode cX8_isAny 8 = .ok (.getfield 317, 3) := by decide +kernel
theorem dX8_isAny_11 : decode cX8_isAny 11 = .ok (.ifCond .le 7, 3) := by decide +kernel
theorem dX8_isAny_14 : decode cX8_isAny 14 = .ok (.iconst 1, 1) := by decide +kernel
theorem dX8_isAny_15 : decode cX8_isAny 15 = .ok (.goto 4, 3) := by decide +kernel
theorem dX8_isAny_18 : decode cX8_isAny 18 = .ok (.iconst 0, 1) := by decide +kernel
theorem dX8_isAny_19 : decode cX8_isAny 19 = .ok (.ireturn, 1) := by decide +kernel
theorem dX8_bars_0 : decode cX8_bars 0 = .ok (.aload_n 0, 1) := by decide +kernel
theorem dX8_bars_1 : decode cX8_bars 1 = .ok (.aload_n 0, 1) := by decide +kernel
theorem dX8_bars_2 : decode cX8_bars 2 = .ok (.invokevirtual 356, 3) := by decide +kernel
theorem dX8_bars_5 : decode cX8_bars 5 = .ok (.invokevirtual 363, 3) := by decide +kernel
theorem dX8_bars_8 : decode cX8_bars 8 = .ok (.ifCond .eq 5, 3) := by decide +kernel
theorem dX8_bars_11 : decode cX8_bars 11 = .ok (.iconst (-1), 1) := by decide +kernel
theorem dX8_bars_12 : decode cX8_bars 12 = .ok (.ireturn, 1) := by decide +kernel
theorem dX8_bars_13 : decode cX8_bars 13 = .ok (.iconst (-1), 1) := by decide +kernel
theorem dX8_bars_14 : decode cX8_bars 14 = .ok (.istore_n 1, 1) := by decide +kernel
theorem dX8_bars_15 : decode cX8_bars 15 = .ok (.iconst 0, 1) := by decide +kernel
theorem dX8_bars_16 : decode cX8_bars 16 = .ok (.istore_n 2, 1) := by decide +kernel
theorem dX8_bars_17 : decode cX8_bars 17 = .ok (.iload_n 2, 1) := by decide +kernel
theorem dX8_bars_18 : decode cX8_bars 18 = .ok (.aload_n 0, 1) := by decide +kernel
theorem dX8_bars_19 : decode cX8_bars 19 = .ok (.getfield 82, 3) := by decide +kernel
theorem dX8_bars_22 : decode cX8_bars 22 = .ok (.if_icmp .ge 41, 3) := by decide +kernel
theorem dX8_bars_25 : decode cX8_bars 25 = .ok (.iload_n 1, 1) := by decide +kernel
theorem dX8_bars_26 : decode cX8_bars 26 = .ok (.iconst (-1), 1) := by decide +kernel
theorem dX8_bars_27 : decode cX8_bars 27 = .ok (.if_icmp .ne 36, 3) := by decide +kernel
theorem dX8_bars_30 : decode cX8_bars 30 = .ok (.aload_n 0, 1) := by decide +kernel
theorem dX8_bars_31 : decode cX8_bars 31 = .ok (.iload_n 2, 1) := by decide +kernel
theorem dX8_bars_32 : decode cX8_bars 32 = .ok (.putfield 38, 3) := by decide +kernel
theorem dX8_bars_35 : decode cX8_bars 35 = .ok (.aload_n 0, 1) := by decide +kernel
theorem dX8_bars_36 : decode cX8_bars 36 = .ok (.aload_n 0, 1) := by decide +kernel
theorem dX8_bars_37 : decode cX8_bars 37 = .ok (.invokevirtual 356, 3) := by decide +kernel
theorem dX8_bars_40 : decode cX8_bars 40 = .ok (.invokevirtual 363, 3) := by decide +kernel
theorem dX8_bars_43 : decode cX8_bars 43 = .ok (.ifCond .eq 7, 3) := by decide +kernel
theorem dX8_bars_46 : decode cX8_bars 46 = .ok (.iload_n 2, 1) := by decide +kernel
theorem dX8_bars_47 : decode cX8_bars 47 = .ok (.goto 4, 3) := by decide +kernel
theorem dX8_bars_50 : decode cX8_bars 50 = .ok (.iconst (-1), 1) := by decide +kernel
theorem dX8_bars_51 : decode cX8_bars 51 = .ok (.istore_n 1, 1) := by decide +kernel
theorem dX8_bars_52 : decode cX8_bars 52 = .ok (.aload_n 0, 1) := by decide +kernel
theorem dX8_bars_53 : decode cX8_bars 53 = .ok (.iconst (-1), 1) := by decide +kernel
theorem dX8_bars_54 : decode cX8_bars 54 = .ok (.putfield 38, 3) := by decide +kernel
theorem dX8_bars_57 : decode cX8_bars 57 = .ok (.iinc 2 1, 3) := by decide +kernel
theorem dX8_bars_60 : decode cX8_bars 60 = .ok (.goto (-43), 3) := by decide +kernel
theorem dX8_bars_63 : decode cX8_bars 63 = .ok (.iload_n 1, 1) := by decide +kernel
theorem dX8_bars_64 : decode cX8_bars 64 = .ok (.ireturn, 1) := by decide +kernel
theorem dX8_borrow_0 : decode cX8_borrow 0 = .ok (.aload_n 0, 1) := by decide +kernel
theorem dX8_borrow_1 : decode cX8_borrow 1 = .ok (.iload_n 1, 1) := by decide +kernel
theorem dX8_borrow_2 : decode cX8_borrow 2 = .ok (.iload_n 2, 1) := by decide +kernel
theorem dX8_borrow_3 : decode cX8_borrow 3 = .ok (.invokevirtual 116, 3) := by decide +kernel
theorem dX8_borrow_6 : decode cX8_borrow 6 = .ok (.ifCond .ne 6, 3) := by decide +kernel
theorem dX8_borrow_9 : decode cX8_borrow 9 = .ok (.bipush (-2), 2) := by decide +kernel
theorem dX8_borrow_11 : decode cX8_borrow 11 = .ok (.ireturn, 1) := by decide +kernel
theorem dX8_borrow_12 : decode cX8_borrow 12 = .ok (.bipush 7, 2) := by decide +kernel
theorem dX8_borrow_14 : decode cX8_borrow 14 = .ok (.iload_n 1, 1) := by decide +kernel
theorem dX8_borrow_15 : decode cX8_borrow 15 = .ok (.imul, 1) := by decide +kernel
theorem dX8_borrow_16 : decode cX8_borrow 16 = .ok (.iload_n 2, 1) := by decide +kernel
theorem dX8_borrow_17 : decode cX8_borrow 17 = .ok (.iadd, 1) := by decide +kernel
theorem dX8_borrow_18 : decode cX8_borrow 18 = .ok (.istore_n 3, 1) := by decide +kernel
theorem dX8_borrow_19 : decode cX8_borrow 19 = .ok (.aload_n 0, 1) := by decide +kernel
theorem dX8_borrow_20 : decode cX8_borrow 20 = .ok (.getfield 35, 3) := by decide +kernel
theorem dX8_borrow_23 : decode cX8_borrow 23 = .ok (.iload_n 3, 1) := by decide +kernel
theorem dX8_borrow_24 : decode cX8_borrow 24 = .ok (.iaload, 1) := by decide +kernel
theorem dX8_borrow_25 : decode cX8_borrow 25 = .ok (.istore 4, 2) := by decide +kernel
theorem dX8_borrow_27 : decode cX8_borrow 27 = .ok (.iconst (-1), 1) := by decide +kernel
theorem dX8_borrow_28 : decode cX8_borrow 28 = .ok (.istore 5, 2) := by decide +kernel
theorem dX8_borrow_30 : decode cX8_borrow 30 = .ok (.iload 4, 2) := by decide +kernel
theorem dX8_borrow_32 : decode cX8_borrow 32 = .ok (.istore 6, 2) := by decide +kernel
theorem dX8_borrow_34 : decode cX8_borrow 34 = .ok (.iload 6, 2) := by decide +kernel
theorem dX8_borrow_36 : decode cX8_borrow 36 = .ok (.sipush 999, 3) := by decide +kernel
theorem dX8_borrow_39 : decode cX8_borrow 39 = .ok (.if_icmp .gt 47, 3) := by decide +kernel
theorem dX8_borrow_42 : decode cX8_borrow 42 = .ok (.iload 5, 2) := by decide +kernel
theorem dX8_borrow_44 : decode cX8_borrow 44 = .ok (.iconst (-1), 1) := by decide +kernel
theorem dX8_borrow_45 : decode cX8_borrow 45 = .ok (.if_icmp .ne 41, 3) := by decide +kernel
theorem dX8_borrow_48 : decode cX8_borrow 48 = .ok (.aload_n 0, 1) := by decide +kernel
theorem dX8_borrow_49 : decode cX8_borrow 49 = .ok (.getfield 35, 3) := by decide +kernel
theorem dX8_borrow_52 : decode cX8_borrow 52 = .ok (.iload_n 3, 1) := by decide +kernel
theorem dX8_borrow_53 : decode cX8_borrow 53 = .ok (.iload 6, 2) := by decide +kernel
theorem dX8_borrow_55 : decode cX8_borrow 55 = .ok (.iastore, 1) := by decide +kernel
theorem dX8_borrow_56 : decode cX8_borrow 56 = .ok (.aload_n 0, 1) := by decide +kernel
theorem dX8_borrow_57 : decode cX8_borrow 57 = .ok (.iload_n 1, 1) := by decide +kernel
theorem dX8_borrow_58 : decode cX8_borrow 58 = .ok (.aload_n 0, 1) := by decide +kernel
theorem dX8_borrow_59 : decode cX8_borrow 59 = .ok (.invokevirtual 356, 3) := by decide +kernel
theorem dX8_borrow_62 : decode cX8_borrow 62 = .ok (.invokevirtual 126, 3) := by decide +kernel
theorem dX8_borrow_65 : decode cX8_borrow 65 = .ok (.iload_n 2, 1) := by decide +kernel
theorem dX8_borrow_66 : decode cX8_borrow 66 = .ok (.if_icmp .ne 11, 3) := by decide +kernel
theorem dX8_borrow_69 : decode cX8_borrow 69 = .ok (.iload 6, 2) := by decide +kernel
theorem dX8_borrow_71 : decode cX8_borrow 71 = .ok (.iload 4, 2) := by decide +kernel
theorem dX8_borrow_73 : decode cX8_borrow 73 = .ok (.isub, 1) := by decide +kernel
theorem dX8_borrow_74 : decode cX8_borrow 74 = .ok (.goto 4, 3) := by decide +kernel
theorem dX8_borrow_77 : decode cX8_borrow 77 = .ok (.iconst (-1), 1) := by decide +kernel
theorem dX8_borrow_78 : decode cX8_borrow 78 = .ok (.istore 5, 2) := by decide +kernel
theorem dX8_borrow_80 : decode cX8_borrow 80 = .ok (.iinc 6 1, 3) := by decide +kernel
theorem dX8_borrow_83 : decode cX8_borrow 83 = .ok (.goto (-49), 3) := by decide +kernel
theorem dX8_borrow_86 : decode cX8_borrow 86 = .ok (.aload_n 0, 1) := by decide +kernel
theorem dX8_borrow_87 : decode cX8_borrow 87 = .ok (.getfield 35, 3) := by decide +kernel
theorem dX8_borrow_90 : decode cX8_borrow 90 = .ok (.iload_n 3, 1) := by decide +kernel
theorem dX8_borrow_91 : decode cX8_borrow 91 = .ok (.iload 4, 2) := by decide +kernel
theorem dX8_borrow_93 : decode cX8_borrow 93 = .ok (.iastore, 1) := by decide +kernel
theorem dX8_borrow_94 : decode cX8_borrow 94 = .ok (.iload 5, 2) := by decide +kernel
theorem dX8_borrow_96 : decode cX8_borrow 96 = .ok (.ireturn, 1) := by decide +kernel
theorem dX8_company_0 : decode cX8_company 0 = .ok (.iload_n 1, 1) := by decide +kernel
theorem dX8_company_1 : decode cX8_company 1 = .ok (.i2l, 1) := by decide +kernel
theorem dX8_company_2 : decode cX8_company 2 = .ok (.lconst 0, 1) := by decide +kernel
theorem dX8_company_3 : decode cX8_company 3 = .ok (.lconst 1, 1) := by decide +kernel
theorem dX8_company_4 : decode cX8_company 4 = .ok (.invokestatic 85, 3) := by decide +kernel
theorem dX8_company_7 : decode cX8_company 7 = .ok (.ifCond .ne 6, 3) := by decide +kernel
theorem dX8_company_10 : decode cX8_company 10 = .ok (.bipush (-2), 2) := by decide +kernel
theorem dX8_company_12 : decode cX8_company 12 = .ok (.ireturn, 1) := by decide +kernel
theorem dX8_company_13 : decode cX8_company 13 = .ok (.iconst 0, 1) := by decide +kernel
theorem dX8_company_14 : decode cX8_company 14 = .ok (.istore_n 2, 1) := by decide +kernel
theorem dX8_company_15 : decode cX8_company 15 = .ok (.iconst 1, 1) := by decide +kernel
theorem dX8_company_16 : decode cX8_company 16 = .ok (.istore_n 3, 1) := by decide +kernel
theorem dX8_company_17 : decode cX8_company 17 = .ok (.iload_n 3, 1) := by decide +kernel
theorem dX8_company_18 : decode cX8_company 18 = .ok (.aload_n 0, 1) := by decide +kernel
theorem dX8_company_19 : decode cX8_company 19 = .ok (.invokevirtual 356, 3) := by decide +kernel
theorem dX8_company_22 : decode cX8_company 22 = .ok (.if_icmp .gt 30, 3) := by decide +kernel
theorem dX8_company_25 : decode cX8_company 25 = .ok (.iload_n 3, 1) := by decide +kernel
theorem dX8_company_26 : decode cX8_company 26 = .ok (.invokestatic 351, 3) := by decide +kernel
theorem dX8_company_29 : decode cX8_company 29 = .ok (.iload_n 2, 1) := by decide +kernel
theorem dX8_company_30 : decode cX8_company 30 = .ok (.invokestatic 351, 3) := by decide +kernel
theorem dX8_company_33 : decode cX8_company 33 = .ok (.if_icmp .le 13, 3) := by decide +kernel
theorem dX8_company_36 : decode cX8_company 36 = .ok (.aload_n 0, 1) := by decide +kernel
theorem dX8_company_37 : decode cX8_company 37 = .ok (.iload_n 3, 1) := by decide +kernel
theorem dX8_company_38 : decode cX8_company 38 = .ok (.invokevirtual 363, 3) := by decide +kernel
theorem dX8_company_41 : decode cX8_company 41 = .ok (.ifCond .eq 5, 3) := by decide +kernel
theorem dX8_company_44 : decode cX8_company 44 = .ok (.iload_n 3, 1) := by decide +kernel
theorem dX8_company_45 : decode cX8_company 45 = .ok (.istore_n 2, 1) := by decide +kernel
theorem dX8_company_46 : decode cX8_company 46 = .ok (.iinc 3 1, 3) := by decide +kernel
theorem dX8_company_49 : decode cX8_company 49 = .ok (.goto (-32), 3) := by decide +kernel
theorem dX8_company_52 : decode cX8_company 52 = .ok (.iload_n 1, 1) := by decide +kernel
theorem dX8_company_53 : decode cX8_company 53 = .ok (.ifCond .ne 7, 3) := by decide +kernel
theorem dX8_company_56 : decode cX8_company 56 = .ok (.iload_n 2, 1) := by decide +kernel
theorem dX8_company_57 : decode cX8_company 57 = .ok (.goto 7, 3) := by decide +kernel
theorem dX8_company_60 : decode cX8_company 60 = .ok (.iload_n 2, 1) := by decide +kernel
theorem dX8_company_61 : decode cX8_company 61 = .ok (.invokestatic 351, 3) := by decide +kernel
theorem dX8_company_64 : decode cX8_company 64 = .ok (.ireturn, 1) := by decide +kernel
theorem dX8_sitsBy_0 : decode cX8_sitsBy 0 = .ok (.iload_n 1, 1) := by decide +kernel
theorem dX8_sitsBy_1 : decode cX8_sitsBy 1 = .ok (.istore_n 2, 1) := by decide +kernel
theorem dX8_sitsBy_2 : decode cX8_sitsBy 2 = .ok (.aload_n 0, 1) := by decide +kernel
theorem dX8_sitsBy_3 : decode cX8_sitsBy 3 = .ok (.aload_n 0, 1) := by decide +kernel
theorem dX8_sitsBy_4 : decode cX8_sitsBy 4 = .ok (.getfield 82, 3) := by decide +kernel
theorem dX8_sitsBy_7 : decode cX8_sitsBy 7 = .ok (.putfield 255, 3) := by decide +kernel
theorem dX8_sitsBy_10 : decode cX8_sitsBy 10 = .ok (.aload_n 0, 1) := by decide +kernel
theorem dX8_sitsBy_11 : decode cX8_sitsBy 11 = .ok (.getfield 82, 3) := by decide +kernel
theorem dX8_sitsBy_14 : decode cX8_sitsBy 14 = .ok (.iconst 1, 1) := by decide +kernel
theorem dX8_sitsBy_15 : decode cX8_sitsBy 15 = .ok (.isub, 1) := by decide +kernel
theorem dX8_sitsBy_16 : decode cX8_sitsBy 16 = .ok (.istore_n 3, 1) := by decide +kernel
theorem dX8_sitsBy_17 : decode cX8_sitsBy 17 = .ok (.iload_n 3, 1) := by decide +kernel
theorem dX8_sitsBy_18 : decode cX8_sitsBy 18 = .ok (.ifCond .lt 26, 3) := by decide +kernel
theorem dX8_sitsBy_21 : decode cX8_sitsBy 21 = .ok (.aload_n 0, 1) := by decide +kernel
theorem dX8_sitsBy_22 : decode cX8_sitsBy 22 = .ok (.getfield 41, 3) := by decide +kernel
theorem dX8_sitsBy_25 : decode cX8_sitsBy 25 = .ok (.iload_n 3, 1) := by decide +kernel
theorem dX8_sitsBy_26 : decode cX8_sitsBy 26 = .ok (.iload_n 2, 1) := by decide +kernel
theorem dX8_sitsBy_27 : decode cX8_sitsBy 27 = .ok (.bipush 10, 2) := by decide +kernel
theorem dX8_sitsBy_29 : decode cX8_sitsBy 29 = .ok (.irem, 1) := by decide +kernel
theorem dX8_sitsBy_30 : decode cX8_sitsBy 30 = .ok (.iconst 1, 1) := by decide +kernel
theorem dX8_sitsBy_31 : decode cX8_sitsBy 31 = .ok (.isub, 1) := by decide +kernel
theorem dX8_sitsBy_32 : decode cX8_sitsBy 32 = .ok (.iastore, 1) := by decide +kernel
theorem dX8_sitsBy_33 : decode cX8_sitsBy 33 = .ok (.iload_n 2, 1) := by decide +kernel
theorem dX8_sitsBy_34 : decode cX8_sitsBy 34 = .ok (.bipush 10, 2) := by decide +kernel
theorem dX8_sitsBy_36 : decode cX8_sitsBy 36 = .ok (.idiv, 1) := by decide +kernel
theorem dX8_sitsBy_37 : decode cX8_sitsBy 37 = .ok (.istore_n 2, 1) := by decide +kernel
theorem dX8_sitsBy_38 : decode cX8_sitsBy 38 = .ok (.iinc 3 (-1), 3) := by decide +kernel
theorem dX8_sitsBy_41 : decode cX8_sitsBy 41 = .ok (.goto (-24), 3) := by decide +kernel
theorem dX8_sitsBy_44 : decode cX8_sitsBy 44 = .ok (.return_, 1) := by decide +kernel
theorem dX8_run_0 : decode cX8_run 0 = .ok (.iload_n 1, 1) := by decide +kernel
theorem dX8_run_1 : decode cX8_run 1 = .ok (.i2l, 1) := by decide +kernel
theorem dX8_run_2 : decode cX8_run 2 = .ok (.lconst 0, 1) := by decide +kernel
theorem dX8_run_3 : decode cX8_run 3 = .ok (.ldc2_w 366, 3) := by decide +kernel
theorem dX8_run_6 : decode cX8_run 6 = .ok (.invokestatic 85, 3) := by decide +kernel
theorem dX8_run_9 : decode cX8_run 9 = .ok (.ifCond .eq 15, 3) := by decide +kernel
theorem dX8_run_12 : decode cX8_run 12 = .ok (.iload_n 2, 1) := by decide +kernel
theorem dX8_run_13 : decode cX8_run 13 = .ok (.i2l, 1) := by decide +kernel
theorem dX8_run_14 : decode cX8_run 14 = .ok (.lconst 0, 1) := by decide +kernel
theorem dX8_run_15 : decode cX8_run 15 = .ok (.ldc2_w 302, 3) := by decide +kernel
theorem dX8_run_18 : decode cX8_run 18 = .ok (.invokestatic 85, 3) := by decide +kernel
theorem dX8_run_21 : decode cX8_run 21 = .ok (.ifCond .ne 6, 3) := by decide +kernel
theorem dX8_run_24 : decode cX8_run 24 = .ok (.bipush (-2), 2) := by decide +kernel
theorem dX8_run_26 : decode cX8_run 26 = .ok (.ireturn, 1) := by decide +kernel
theorem dX8_run_27 : decode cX8_run 27 = .ok (.iconst 0, 1) := by decide +kernel
theorem dX8_run_28 : decode cX8_run 28 = .ok (.istore_n 3, 1) := by decide +kernel
theorem dX8_run_29 : decode cX8_run 29 = .ok (.iload_n 3, 1) := by decide +kernel
theorem dX8_run_30 : decode cX8_run 30 = .ok (.bipush 49, 2) := by decide +kernel
theorem dX8_run_32 : decode cX8_run 32 = .ok (.if_icmp .ge 21, 3) := by decide +kernel
theorem dX8_run_35 : decode cX8_run 35 = .ok (.aload_n 0, 1) := by decide +kernel
theorem dX8_run_36 : decode cX8_run 36 = .ok (.getfield 47, 3) := by decide +kernel
theorem dX8_run_39 : decode cX8_run 39 = .ok (.iload_n 3, 1) := by decide +kernel
theorem dX8_run_40 : decode cX8_run 40 = .ok (.aload_n 0, 1) := by decide +kernel
theorem dX8_run_41 : decode cX8_run 41 = .ok (.getfield 35, 3) := by decide +kernel
theorem dX8_run_44 : decode cX8_run 44 = .ok (.iload_n 3, 1) := by decide +kernel
theorem dX8_run_45 : decode cX8_run 45 = .ok (.iaload, 1) := by decide +kernel
theorem dX8_run_46 : decode cX8_run 46 = .ok (.iastore, 1) := by decide +kernel
theorem dX8_run_47 : decode cX8_run 47 = .ok (.iinc 3 1, 3) := by decide +kernel
theorem dX8_run_50 : decode cX8_run 50 = .ok (.goto (-21), 3) := by decide +kernel
theorem dX8_run_53 : decode cX8_run 53 = .ok (.iconst 0, 1) := by decide +kernel
theorem dX8_run_54 : decode cX8_run 54 = .ok (.istore_n 3, 1) := by decide +kernel
theorem dX8_run_55 : decode cX8_run 55 = .ok (.iconst 1, 1) := by decide +kernel
theorem dX8_run_56 : decode cX8_run 56 = .ok (.istore 4, 2) := by decide +kernel
theorem dX8_run_58 : decode cX8_run 58 = .ok (.iload_n 3, 1) := by decide +kernel
theorem dX8_run_59 : decode cX8_run 59 = .ok (.iload_n 1, 1) := by decide +kernel
theorem dX8_run_60 : decode cX8_run 60 = .ok (.if_icmp .ge 55, 3) := by decide +kernel
theorem dX8_run_63 : decode cX8_run 63 = .ok (.iload 4, 2) := by decide +kernel
theorem dX8_run_65 : decode cX8_run 65 = .ok (.ifCond .eq 50, 3) := by decide +kernel
theorem dX8_run_68 : decode cX8_run 68 = .ok (.aload_n 0, 1) := by decide +kernel
theorem dX8_run_69 : decode cX8_run 69 = .ok (.aload_n 0, 1) := by decide +kernel
theorem dX8_run_70 : decode cX8_run 70 = .ok (.invokevirtual 356, 3) := by decide +kernel
theorem dX8_run_73 : decode cX8_run 73 = .ok (.iconst 0, 1) := by decide +kernel
theorem dX8_run_74 : decode cX8_run 74 = .ok (.iconst 0, 1) := by decide +kernel
theorem dX8_run_75 : decode cX8_run 75 = .ok (.invokevirtual 359, 3) := by decide +kernel
theorem dX8_run_78 : decode cX8_run 78 = .ok (.aload_n 0, 1) := by decide +kernel
theorem dX8_run_79 : decode cX8_run 79 = .ok (.getfield 317, 3) := by decide +kernel
theorem dX8_run_82 : decode cX8_run 82 = .ok (.ifCond .le 7, 3) := by decide +kernel
theorem dX8_run_85 : decode cX8_run 85 = .ok (.iconst 1, 1) := by decide +kernel
theorem dX8_run_86 : decode cX8_run 86 = .ok (.goto 4, 3) := by decide +kernel
theorem dX8_run_89 : decode cX8_run 89 = .ok (.iconst 0, 1) := by decide +kernel
theorem dX8_run_90 : decode cX8_run 90 = .ok (.istore 4, 2) := by decide +kernel
theorem dX8_run_92 : decode cX8_run 92 = .ok (.iload 4, 2) := by decide +kernel
theorem dX8_run_94 : decode cX8_run 94 = .ok (.ifCond .eq (-36), 3) := by decide +kernel
theorem dX8_run_97 : decode cX8_run 97 = .ok (.aload_n 0, 1) := by decide +kernel
theorem dX8_run_98 : decode cX8_run 98 = .ok (.aload_n 0, 1) := by decide +kernel
theorem dX8_run_99 : decode cX8_run 99 = .ok (.getfield 320, 3) := by decide +kernel
theorem dX8_run_102 : decode cX8_run 102 = .ok (.invokevirtual 368, 3) := by decide +kernel
theorem dX8_run_105 : decode cX8_run 105 = .ok (.aload_n 0, 1) := by decide +kernel
theorem dX8_run_106 : decode cX8_run 106 = .ok (.invokevirtual 290, 3) := by decide +kernel
theorem dX8_run_109 : decode cX8_run 109 = .ok (.iinc 3 1, 3) := by decide +kernel
theorem dX8_run_112 : decode cX8_run 112 = .ok (.goto (-54), 3) := by decide +kernel
theorem dX8_run_115 : decode cX8_run 115 = .ok (.iload_n 2, 1) := by decide +kernel
theorem dX8_run_116 : decode cX8_run 116 = .ok (.ifCond .ne 7, 3) := by decide +kernel
theorem dX8_run_119 : decode cX8_run 119 = .ok (.iload_n 3, 1) := by decide +kernel
theorem dX8_run_120 : decode cX8_run 120 = .ok (.goto 19, 3) := by decide +kernel
theorem dX8_run_123 : decode cX8_run 123 = .ok (.iload_n 2, 1) := by decide +kernel
theorem dX8_run_124 : decode cX8_run 124 = .ok (.iconst 1, 1) := by decide +kernel
theorem dX8_run_125 : decode cX8_run 125 = .ok (.if_icmp .ne 10, 3) := by decide +kernel
theorem dX8_run_128 : decode cX8_run 128 = .ok (.aload_n 0, 1) := by decide +kernel
theorem dX8_run_129 : decode cX8_run 129 = .ok (.invokevirtual 293, 3) := by decide +kernel
theorem dX8_run_132 : decode cX8_run 132 = .ok (.goto 7, 3) := by decide +kernel
theorem dX8_run_135 : decode cX8_run 135 = .ok (.aload_n 0, 1) := by decide +kernel
theorem dX8_run_136 : decode cX8_run 136 = .ok (.invokevirtual 372, 3) := by decide +kernel
theorem dX8_run_139 : decode cX8_run 139 = .ok (.istore 5, 2) := by decide +kernel
theorem dX8_run_141 : decode cX8_run 141 = .ok (.iconst 0, 1) := by decide +kernel
theorem dX8_run_142 : decode cX8_run 142 = .ok (.istore 6, 2) := by decide +kernel
theorem dX8_run_144 : decode cX8_run 144 = .ok (.iload 6, 2) := by decide +kernel
theorem dX8_run_146 : decode cX8_run 146 = .ok (.bipush 49, 2) := by decide +kernel
theorem dX8_run_148 : decode cX8_run 148 = .ok (.if_icmp .ge 23, 3) := by decide +kernel
theorem dX8_run_151 : decode cX8_run 151 = .ok (.aload_n 0, 1) := by decide +kernel
theorem dX8_run_152 : decode cX8_run 152 = .ok (.getfield 35, 3) := by decide +kernel
theorem dX8_run_155 : decode cX8_run 155 = .ok (.iload 6, 2) := by decide +kernel
theorem dX8_run_157 : decode cX8_run 157 = .ok (.aload_n 0, 1) := by decide +kernel
theorem dX8_run_158 : decode cX8_run 158 = .ok (.getfield 47, 3) := by decide +kernel
theorem dX8_run_161 : decode cX8_run 161 = .ok (.iload 6, 2) := by decide +kernel
theorem dX8_run_163 : decode cX8_run 163 = .ok (.iaload, 1) := by decide +kernel
theorem dX8_run_164 : decode cX8_run 164 = .ok (.iastore, 1) := by decide +kernel
theorem dX8_run_165 : decode cX8_run 165 = .ok (.iinc 6 1, 3) := by decide +kernel
theorem dX8_run_168 : decode cX8_run 168 = .ok (.goto (-24), 3) := by decide +kernel
theorem dX8_run_171 : decode cX8_run 171 = .ok (.iload 5, 2) := by decide +kernel
theorem dX8_run_173 : decode cX8_run 173 = .ok (.ireturn, 1) := by decide +kernel
theorem dX8_toldBy_0 : decode cX8_toldBy 0 = .ok (.aload_n 0, 1) := by decide +kernel
theorem dX8_toldBy_1 : decode cX8_toldBy 1 = .ok (.iload_n 1, 1) := by decide +kernel
theorem dX8_toldBy_2 : decode cX8_toldBy 2 = .ok (.iload_n 2, 1) := by decide +kernel
theorem dX8_toldBy_3 : decode cX8_toldBy 3 = .ok (.invokevirtual 103, 3) := by decide +kernel
theorem dX8_toldBy_6 : decode cX8_toldBy 6 = .ok (.istore 4, 2) := by decide +kernel
theorem dX8_toldBy_8 : decode cX8_toldBy 8 = .ok (.iconst 0, 1) := by decide +kernel
theorem dX8_toldBy_9 : decode cX8_toldBy 9 = .ok (.istore 5, 2) := by decide +kernel
theorem dX8_toldBy_11 : decode cX8_toldBy 11 = .ok (.iconst 0, 1) := by decide +kernel
theorem dX8_toldBy_12 : decode cX8_toldBy 12 = .ok (.istore 6, 2) := by decide +kernel
theorem dX8_toldBy_14 : decode cX8_toldBy 14 = .ok (.iload 6, 2) := by decide +kernel
theorem dX8_toldBy_16 : decode cX8_toldBy 16 = .ok (.iload_n 3, 1) := by decide +kernel
theorem dX8_toldBy_17 : decode cX8_toldBy 17 = .ok (.if_icmp .ge 38, 3) := by decide +kernel
theorem dX8_toldBy_20 : decode cX8_toldBy 20 = .ok (.aload_n 0, 1) := by decide +kernel
theorem dX8_toldBy_21 : decode cX8_toldBy 21 = .ok (.iload_n 2, 1) := by decide +kernel
theorem dX8_toldBy_22 : decode cX8_toldBy 22 = .ok (.iload_n 1, 1) := by decide +kernel
theorem dX8_toldBy_23 : decode cX8_toldBy 23 = .ok (.iload 6, 2) := by decide +kernel
theorem dX8_toldBy_25 : decode cX8_toldBy 25 = .ok (.invokevirtual 107, 3) := by decide +kernel
theorem dX8_toldBy_28 : decode cX8_toldBy 28 = .ok (.iload 5, 2) := by decide +kernel
theorem dX8_toldBy_30 : decode cX8_toldBy 30 = .ok (.aload_n 0, 1) := by decide +kernel
theorem dX8_toldBy_31 : decode cX8_toldBy 31 = .ok (.invokevirtual 308, 3) := by decide +kernel
theorem dX8_toldBy_34 : decode cX8_toldBy 34 = .ok (.iconst (-1), 1) := by decide +kernel
theorem dX8_toldBy_35 : decode cX8_toldBy 35 = .ok (.if_icmp .ne 7, 3) := by decide +kernel
theorem dX8_toldBy_38 : decode cX8_toldBy 38 = .ok (.iconst 1, 1) := by decide +kernel
theorem dX8_toldBy_39 : decode cX8_toldBy 39 = .ok (.goto 4, 3) := by decide +kernel
theorem dX8_toldBy_42 : decode cX8_toldBy 42 = .ok (.iconst 0, 1) := by decide +kernel
theorem dX8_toldBy_43 : decode cX8_toldBy 43 = .ok (.iload 6, 2) := by decide +kernel
theorem dX8_toldBy_45 : decode cX8_toldBy 45 = .ok (.ishl, 1) := by decide +kernel
theorem dX8_toldBy_46 : decode cX8_toldBy 46 = .ok (.ior, 1) := by decide +kernel
theorem dX8_toldBy_47 : decode cX8_toldBy 47 = .ok (.istore 5, 2) := by decide +kernel
theorem dX8_toldBy_49 : decode cX8_toldBy 49 = .ok (.iinc 6 1, 3) := by decide +kernel
theorem dX8_toldBy_52 : decode cX8_toldBy 52 = .ok (.goto (-38), 3) := by decide +kernel
theorem dX8_toldBy_55 : decode cX8_toldBy 55 = .ok (.aload_n 0, 1) := by decide +kernel
theorem dX8_toldBy_56 : decode cX8_toldBy 56 = .ok (.iload_n 2, 1) := by decide +kernel
theorem dX8_toldBy_57 : decode cX8_toldBy 57 = .ok (.iload_n 1, 1) := by decide +kernel
theorem dX8_toldBy_58 : decode cX8_toldBy 58 = .ok (.iload 4, 2) := by decide +kernel
theorem dX8_toldBy_60 : decode cX8_toldBy 60 = .ok (.invokevirtual 107, 3) := by decide +kernel
theorem dX8_toldBy_63 : decode cX8_toldBy 63 = .ok (.iload 5, 2) := by decide +kernel
theorem dX8_toldBy_65 : decode cX8_toldBy 65 = .ok (.ireturn, 1) := by decide +kernel
theorem dX8_owedBy_0 : decode cX8_owedBy 0 = .ok (.aload_n 0, 1) := by decide +kernel
theorem dX8_owedBy_1 : decode cX8_owedBy 1 = .ok (.getfield 35, 3) := by decide +kernel
theorem dX8_owedBy_4 : decode cX8_owedBy 4 = .ok (.iload_n 1, 1) := by decide +kernel
theorem dX8_owedBy_5 : decode cX8_owedBy 5 = .ok (.iaload, 1) := by decide +kernel
theorem dX8_owedBy_6 : decode cX8_owedBy 6 = .ok (.istore_n 3, 1) := by decide +kernel
theorem dX8_owedBy_7 : decode cX8_owedBy 7 = .ok (.iconst 0, 1) := by decide +kernel
theorem dX8_owedBy_8 : decode cX8_owedBy 8 = .ok (.istore 4, 2) := by decide +kernel
theorem dX8_owedBy_10 : decode cX8_owedBy 10 = .ok (.iconst (-1), 1) := by decide +kernel
theorem dX8_owedBy_11 : decode cX8_owedBy 11 = .ok (.istore 5, 2) := by decide +kernel
theorem dX8_owedBy_13 : decode cX8_owedBy 13 = .ok (.iconst 0, 1) := by decide +kernel
theorem dX8_owedBy_14 : decode cX8_owedBy 14 = .ok (.istore 6, 2) := by decide +kernel
theorem dX8_owedBy_16 : decode cX8_owedBy 16 = .ok (.iload 6, 2) := by decide +kernel
theorem dX8_owedBy_18 : decode cX8_owedBy 18 = .ok (.sipush 999, 3) := by decide +kernel
theorem dX8_owedBy_21 : decode cX8_owedBy 21 = .ok (.if_icmp .gt 32, 3) := by decide +kernel
theorem dX8_owedBy_24 : decode cX8_owedBy 24 = .ok (.aload_n 0, 1) := by decide +kernel
theorem dX8_owedBy_25 : decode cX8_owedBy 25 = .ok (.getfield 35, 3) := by decide +kernel
theorem dX8_owedBy_28 : decode cX8_owedBy 28 = .ok (.iload_n 1, 1) := by decide +kernel
theorem dX8_owedBy_29 : decode cX8_owedBy 29 = .ok (.iload 6, 2) := by decide +kernel
theorem dX8_owedBy_31 : decode cX8_owedBy 31 = .ok (.iastore, 1) := by decide +kernel
theorem dX8_owedBy_32 : decode cX8_owedBy 32 = .ok (.aload_n 0, 1) := by decide +kernel
theorem dX8_owedBy_33 : decode cX8_owedBy 33 = .ok (.invokevirtual 308, 3) := by decide +kernel
theorem dX8_owedBy_36 : decode cX8_owedBy 36 = .ok (.iconst (-1), 1) := by decide +kernel
theorem dX8_owedBy_37 : decode cX8_owedBy 37 = .ok (.if_icmp .ne 10, 3) := by decide +kernel
theorem dX8_owedBy_40 : decode cX8_owedBy 40 = .ok (.iinc 4 1, 3) := by decide +kernel
theorem dX8_owedBy_43 : decode cX8_owedBy 43 = .ok (.iload 6, 2) := by decide +kernel
theorem dX8_owedBy_45 : decode cX8_owedBy 45 = .ok (.istore 5, 2) := by decide +kernel
theorem dX8_owedBy_47 : decode cX8_owedBy 47 = .ok (.iinc 6 1, 3) := by decide +kernel
theorem dX8_owedBy_50 : decode cX8_owedBy 50 = .ok (.goto (-34), 3) := by decide +kernel
theorem dX8_owedBy_53 : decode cX8_owedBy 53 = .ok (.aload_n 0, 1) := by decide +kernel
theorem dX8_owedBy_54 : decode cX8_owedBy 54 = .ok (.getfield 35, 3) := by decide +kernel
theorem dX8_owedBy_57 : decode cX8_owedBy 57 = .ok (.iload_n 1, 1) := by decide +kernel
theorem dX8_owedBy_58 : decode cX8_owedBy 58 = .ok (.iload_n 3, 1) := by decide +kernel
theorem dX8_owedBy_59 : decode cX8_owedBy 59 = .ok (.iastore, 1) := by decide +kernel
theorem dX8_owedBy_60 : decode cX8_owedBy 60 = .ok (.iload_n 2, 1) := by decide +kernel
theorem dX8_owedBy_61 : decode cX8_owedBy 61 = .ok (.ifCond .eq 8, 3) := by decide +kernel
theorem dX8_owedBy_64 : decode cX8_owedBy 64 = .ok (.iload 4, 2) := by decide +kernel
theorem dX8_owedBy_66 : decode cX8_owedBy 66 = .ok (.goto 5, 3) := by decide +kernel
theorem dX8_owedBy_69 : decode cX8_owedBy 69 = .ok (.iload 5, 2) := by decide +kernel
theorem dX8_owedBy_71 : decode cX8_owedBy 71 = .ok (.ireturn, 1) := by decide +kernel
theorem dX8_tells_0 : decode cX8_tells 0 = .ok (.iload_n 3, 1) := by decide +kernel
theorem dX8_tells_1 : decode cX8_tells 1 = .ok (.i2l, 1) := by decide +kernel
theorem dX8_tells_2 : decode cX8_tells 2 = .ok (.ldc2_w 120, 3) := by decide +kernel
theorem dX8_tells_5 : decode cX8_tells 5 = .ok (.ldc2_w 375, 3) := by decide +kernel
theorem dX8_tells_8 : decode cX8_tells 8 = .ok (.invokestatic 85, 3) := by decide +kernel
theorem dX8_tells_11 : decode cX8_tells 11 = .ok (.ifCond .eq 19, 3) := by decide +kernel
theorem dX8_tells_14 : decode cX8_tells 14 = .ok (.aload_n 0, 1) := by decide +kernel
theorem dX8_tells_15 : decode cX8_tells 15 = .ok (.iload_n 2, 1) := by decide +kernel
theorem dX8_tells_16 : decode cX8_tells 16 = .ok (.iload_n 3, 1) := by decide +kernel
theorem dX8_tells_17 : decode cX8_tells 17 = .ok (.bipush 10, 2) := by decide +kernel
theorem dX8_tells_19 : decode cX8_tells 19 = .ok (.irem, 1) := by decide +kernel
theorem dX8_tells_20 : decode cX8_tells 20 = .ok (.invokevirtual 116, 3) := by decide +kernel
theorem dX8_tells_23 : decode cX8_tells 23 = .ok (.ifCond .eq 7, 3) := by decide +kernel
theorem dX8_tells_26 : decode cX8_tells 26 = .ok (.iconst 1, 1) := by decide +kernel
theorem dX8_tells_27 : decode cX8_tells 27 = .ok (.goto 4, 3) := by decide +kernel
theorem dX8_tells_30 : decode cX8_tells 30 = .ok (.iconst 0, 1) := by decide +kernel
theorem dX8_tells_31 : decode cX8_tells 31 = .ok (.istore 4, 2) := by decide +kernel
theorem dX8_tells_33 : decode cX8_tells 33 = .ok (.iload_n 1, 1) := by decide +kernel
theorem dX8_tells_34 : decode cX8_tells 34 = .ok (.invokestatic 299, 3) := by decide +kernel
theorem dX8_tells_37 : decode cX8_tells 37 = .ok (.ifCond .eq 28, 3) := by decide +kernel
theorem dX8_tells_40 : decode cX8_tells 40 = .ok (.aload_n 0, 1) := by decide +kernel
theorem dX8_tells_41 : decode cX8_tells 41 = .ok (.iload_n 2, 1) := by decide +kernel
theorem dX8_tells_42 : decode cX8_tells 42 = .ok (.invokevirtual 89, 3) := by decide +kernel
theorem dX8_tells_45 : decode cX8_tells 45 = .ok (.ifCond .eq 20, 3) := by decide +kernel
theorem dX8_tells_48 : decode cX8_tells 48 = .ok (.iload_n 3, 1) := by decide +kernel
theorem dX8_tells_49 : decode cX8_tells 49 = .ok (.i2l, 1) := by decide +kernel
theorem dX8_tells_50 : decode cX8_tells 50 = .ok (.lconst 0, 1) := by decide +kernel
theorem dX8_tells_51 : decode cX8_tells 51 = .ok (.ldc2_w 302, 3) := by decide +kernel
theorem dX8_tells_54 : decode cX8_tells 54 = .ok (.invokestatic 85, 3) := by decide +kernel
theorem dX8_tells_57 : decode cX8_tells 57 = .ok (.ifCond .ne 11, 3) := by decide +kernel
theorem dX8_tells_60 : decode cX8_tells 60 = .ok (.iload 4, 2) := by decide +kernel
theorem dX8_tells_62 : decode cX8_tells 62 = .ok (.ifCond .ne 6, 3) := by decide +kernel
theorem dX8_tells_65 : decode cX8_tells 65 = .ok (.bipush (-2), 2) := by decide +kernel
theorem dX8_tells_67 : decode cX8_tells 67 = .ok (.ireturn, 1) := by decide +kernel
theorem dX8_tells_68 : decode cX8_tells 68 = .ok (.aload_n 0, 1) := by decide +kernel
theorem dX8_tells_69 : decode cX8_tells 69 = .ok (.getfield 62, 3) := by decide +kernel
theorem dX8_tells_72 : decode cX8_tells 72 = .ok (.iload_n 1, 1) := by decide +kernel
theorem dX8_tells_73 : decode cX8_tells 73 = .ok (.baload, 1) := by decide +kernel
theorem dX8_tells_74 : decode cX8_tells 74 = .ok (.ifCond .ne 6, 3) := by decide +kernel
theorem dX8_tells_77 : decode cX8_tells 77 = .ok (.bipush (-11), 2) := by decide +kernel
theorem dX8_tells_79 : decode cX8_tells 79 = .ok (.ireturn, 1) := by decide +kernel
theorem dX8_tells_80 : decode cX8_tells 80 = .ok (.aload_n 0, 1) := by decide +kernel
theorem dX8_tells_81 : decode cX8_tells 81 = .ok (.getfield 69, 3) := by decide +kernel
theorem dX8_tells_84 : decode cX8_tells 84 = .ok (.iload_n 1, 1) := by decide +kernel
theorem dX8_tells_85 : decode cX8_tells 85 = .ok (.iaload, 1) := by decide +kernel
theorem dX8_tells_86 : decode cX8_tells 86 = .ok (.aload_n 0, 1) := by decide +kernel
theorem dX8_tells_87 : decode cX8_tells 87 = .ok (.getfield 82, 3) := by decide +kernel
theorem dX8_tells_90 : decode cX8_tells 90 = .ok (.if_icmp .ne 11, 3) := by decide +kernel
theorem dX8_tells_93 : decode cX8_tells 93 = .ok (.aload_n 0, 1) := by decide +kernel
theorem dX8_tells_94 : decode cX8_tells 94 = .ok (.iload_n 1, 1) := by decide +kernel
theorem dX8_tells_95 : decode cX8_tells 95 = .ok (.invokevirtual 304, 3) := by decide +kernel
theorem dX8_tells_98 : decode cX8_tells 98 = .ok (.ifCond .ne 6, 3) := by decide +kernel
theorem dX8_tells_101 : decode cX8_tells 101 = .ok (.bipush (-2), 2) := by decide +kernel
theorem dX8_tells_103 : decode cX8_tells 103 = .ok (.ireturn, 1) := by decide +kernel
theorem dX8_tells_104 : decode cX8_tells 104 = .ok (.iload_n 3, 1) := by decide +kernel
theorem dX8_tells_105 : decode cX8_tells 105 = .ok (.iconst 3, 1) := by decide +kernel
theorem dX8_tells_106 : decode cX8_tells 106 = .ok (.if_icmp .ge 39, 3) := by decide +kernel
theorem dX8_tells_109 : decode cX8_tells 109 = .ok (.iload_n 3, 1) := by decide +kernel
theorem dX8_tells_110 : decode cX8_tells 110 = .ok (.ifCond .ne 10, 3) := by decide +kernel
theorem dX8_tells_113 : decode cX8_tells 113 = .ok (.aload_n 0, 1) := by decide +kernel
theorem dX8_tells_114 : decode cX8_tells 114 = .ok (.invokevirtual 308, 3) := by decide +kernel
theorem dX8_tells_117 : decode cX8_tells 117 = .ok (.goto 27, 3) := by decide +kernel
theorem dX8_tells_120 : decode cX8_tells 120 = .ok (.iload_n 3, 1) := by decide +kernel
theorem dX8_tells_121 : decode cX8_tells 121 = .ok (.iconst 1, 1) := by decide +kernel
theorem dX8_tells_122 : decode cX8_tells 122 = .ok (.if_icmp .ne 14, 3) := by decide +kernel
theorem dX8_tells_125 : decode cX8_tells 125 = .ok (.aload_n 0, 1) := by decide +kernel
theorem dX8_tells_126 : decode cX8_tells 126 = .ok (.iload_n 2, 1) := by decide +kernel
theorem dX8_tells_127 : decode cX8_tells 127 = .ok (.iconst 4, 1) := by decide +kernel
theorem dX8_tells_128 : decode cX8_tells 128 = .ok (.bipush 6, 2) := by decide +kernel
theorem dX8_tells_130 : decode cX8_tells 130 = .ok (.invokevirtual 377, 3) := by decide +kernel
theorem dX8_tells_133 : decode cX8_tells 133 = .ok (.goto 11, 3) := by decide +kernel
theorem dX8_tells_136 : decode cX8_tells 136 = .ok (.aload_n 0, 1) := by decide +kernel
theorem dX8_tells_137 : decode cX8_tells 137 = .ok (.iload_n 2, 1) := by decide +kernel
theorem dX8_tells_138 : decode cX8_tells 138 = .ok (.iconst 2, 1) := by decide +kernel
theorem dX8_tells_139 : decode cX8_tells 139 = .ok (.bipush 10, 2) := by decide +kernel
theorem dX8_tells_141 : decode cX8_tells 141 = .ok (.invokevirtual 377, 3) := by decide +kernel
theorem dX8_tells_144 : decode cX8_tells 144 = .ok (.ireturn, 1) := by decide +kernel
theorem dX8_tells_145 : decode cX8_tells 145 = .ok (.aload_n 0, 1) := by decide +kernel
theorem dX8_tells_146 : decode cX8_tells 146 = .ok (.bipush 7, 2) := by decide +kernel
theorem dX8_tells_148 : decode cX8_tells 148 = .ok (.iload_n 2, 1) := by decide +kernel
theorem dX8_tells_149 : decode cX8_tells 149 = .ok (.imul, 1) := by decide +kernel
theorem dX8_tells_150 : decode cX8_tells 150 = .ok (.iload_n 3, 1) := by decide +kernel
theorem dX8_tells_151 : decode cX8_tells 151 = .ok (.bipush 10, 2) := by decide +kernel
theorem dX8_tells_153 : decode cX8_tells 153 = .ok (.irem, 1) := by decide +kernel
theorem dX8_tells_154 : decode cX8_tells 154 = .ok (.iadd, 1) := by decide +kernel
theorem dX8_tells_155 : decode cX8_tells 155 = .ok (.iload_n 3, 1) := by decide +kernel
theorem dX8_tells_156 : decode cX8_tells 156 = .ok (.bipush 20, 2) := by decide +kernel
theorem dX8_tells_158 : decode cX8_tells 158 = .ok (.if_icmp .ge 7, 3) := by decide +kernel
theorem dX8_tells_161 : decode cX8_tells 161 = .ok (.iconst 1, 1) := by decide +kernel
theorem dX8_tells_162 : decode cX8_tells 162 = .ok (.goto 4, 3) := by decide +kernel
theorem dX8_tells_165 : decode cX8_tells 165 = .ok (.iconst 0, 1) := by decide +kernel
theorem dX8_tells_166 : decode cX8_tells 166 = .ok (.invokevirtual 380, 3) := by decide +kernel
theorem dX8_tells_169 : decode cX8_tells 169 = .ok (.ireturn, 1) := by decide +kernel
theorem dX8_film_0 : decode cX8_film 0 = .ok (.iload_n 1, 1) := by decide +kernel
theorem dX8_film_1 : decode cX8_film 1 = .ok (.invokestatic 299, 3) := by decide +kernel
theorem dX8_film_4 : decode cX8_film 4 = .ok (.ifCond .ne 6, 3) := by decide +kernel
theorem dX8_film_7 : decode cX8_film 7 = .ok (.bipush (-2), 2) := by decide +kernel
theorem dX8_film_9 : decode cX8_film 9 = .ok (.ireturn, 1) := by decide +kernel
theorem dX8_film_10 : decode cX8_film 10 = .ok (.aload_n 0, 1) := by decide +kernel
theorem dX8_film_11 : decode cX8_film 11 = .ok (.aload_n 0, 1) := by decide +kernel
theorem dX8_film_12 : decode cX8_film 12 = .ok (.invokevirtual 356, 3) := by decide +kernel
theorem dX8_film_15 : decode cX8_film 15 = .ok (.iconst 0, 1) := by decide +kernel
theorem dX8_film_16 : decode cX8_film 16 = .ok (.iconst 0, 1) := by decide +kernel
theorem dX8_film_17 : decode cX8_film 17 = .ok (.invokevirtual 359, 3) := by decide +kernel
theorem dX8_film_20 : decode cX8_film 20 = .ok (.aload_n 0, 1) := by decide +kernel
theorem dX8_film_21 : decode cX8_film 21 = .ok (.getfield 317, 3) := by decide +kernel
theorem dX8_film_24 : decode cX8_film 24 = .ok (.ifCond .le 10, 3) := by decide +kernel
theorem dX8_film_27 : decode cX8_film 27 = .ok (.aload_n 0, 1) := by decide +kernel
theorem dX8_film_28 : decode cX8_film 28 = .ok (.getfield 82, 3) := by decide +kernel
theorem dX8_film_31 : decode cX8_film 31 = .ok (.goto 4, 3) := by decide +kernel
theorem dX8_film_34 : decode cX8_film 34 = .ok (.iconst 0, 1) := by decide +kernel
theorem dX8_film_35 : decode cX8_film 35 = .ok (.istore_n 2, 1) := by decide +kernel
theorem dX8_film_36 : decode cX8_film 36 = .ok (.aload_n 0, 1) := by decide +kernel
theorem dX8_film_37 : decode cX8_film 37 = .ok (.aload_n 0, 1) := by decide +kernel
theorem dX8_film_38 : decode cX8_film 38 = .ok (.getfield 320, 3) := by decide +kernel
theorem dX8_film_41 : decode cX8_film 41 = .ok (.invokevirtual 368, 3) := by decide +kernel
theorem dX8_film_44 : decode cX8_film 44 = .ok (.aload_n 0, 1) := by decide +kernel
theorem dX8_film_45 : decode cX8_film 45 = .ok (.iload_n 1, 1) := by decide +kernel
theorem dX8_film_46 : decode cX8_film 46 = .ok (.iconst 0, 1) := by decide +kernel
theorem dX8_film_47 : decode cX8_film 47 = .ok (.iload_n 2, 1) := by decide +kernel
theorem dX8_film_48 : decode cX8_film 48 = .ok (.invokevirtual 384, 3) := by decide +kernel
theorem dX8_film_51 : decode cX8_film 51 = .ok (.pop, 1) := by decide +kernel
theorem dX8_film_52 : decode cX8_film 52 = .ok (.iconst 0, 1) := by decide +kernel
theorem dX8_film_53 : decode cX8_film 53 = .ok (.istore_n 3, 1) := by decide +kernel
theorem dX8_film_54 : decode cX8_film 54 = .ok (.iload_n 3, 1) := by decide +kernel
theorem dX8_film_55 : decode cX8_film 55 = .ok (.iload_n 2, 1) := by decide +kernel
theorem dX8_film_56 : decode cX8_film 56 = .ok (.if_icmp .ge 26, 3) := by decide +kernel
theorem dX8_film_59 : decode cX8_film 59 = .ok (.aload_n 0, 1) := by decide +kernel
theorem dX8_film_60 : decode cX8_film 60 = .ok (.getfield 72, 3) := by decide +kernel
theorem dX8_film_63 : decode cX8_film 63 = .ok (.bipush 40, 2) := by decide +kernel
theorem dX8_film_65 : decode cX8_film 65 = .ok (.iload_n 1, 1) := by decide +kernel
theorem dX8_film_66 : decode cX8_film 66 = .ok (.imul, 1) := by decide +kernel
theorem dX8_film_67 : decode cX8_film 67 = .ok (.iload_n 3, 1) := by decide +kernel
theorem dX8_film_68 : decode cX8_film 68 = .ok (.iadd, 1) := by decide +kernel
theorem dX8_film_69 : decode cX8_film 69 = .ok (.aload_n 0, 1) := by decide +kernel
theorem dX8_film_70 : decode cX8_film 70 = .ok (.getfield 41, 3) := by decide +kernel
theorem dX8_film_73 : decode cX8_film 73 = .ok (.iload_n 3, 1) := by decide +kernel
theorem dX8_film_74 : decode cX8_film 74 = .ok (.iaload, 1) := by decide +kernel
theorem dX8_film_75 : decode cX8_film 75 = .ok (.iastore, 1) := by decide +kernel
theorem dX8_film_76 : decode cX8_film 76 = .ok (.iinc 3 1, 3) := by decide +kernel
theorem dX8_film_79 : decode cX8_film 79 = .ok (.goto (-25), 3) := by decide +kernel
theorem dX8_film_82 : decode cX8_film 82 = .ok (.iload_n 2, 1) := by decide +kernel
theorem dX8_film_83 : decode cX8_film 83 = .ok (.ireturn, 1) := by decide +kernel
theorem dX8_lawfulBy_0 : decode cX8_lawfulBy 0 = .ok (.iconst 0, 1) := by decide +kernel
theorem dX8_lawfulBy_1 : decode cX8_lawfulBy 1 = .ok (.istore_n 2, 1) := by decide +kernel
theorem dX8_lawfulBy_2 : decode cX8_lawfulBy 2 = .ok (.iload_n 2, 1) := by decide +kernel
theorem dX8_lawfulBy_3 : decode cX8_lawfulBy 3 = .ok (.bipush 49, 2) := by decide +kernel
theorem dX8_lawfulBy_5 : decode cX8_lawfulBy 5 = .ok (.if_icmp .ge 21, 3) := by decide +kernel
theorem dX8_lawfulBy_8 : decode cX8_lawfulBy 8 = .ok (.aload_n 0, 1) := by decide +kernel
theorem dX8_lawfulBy_9 : decode cX8_lawfulBy 9 = .ok (.getfield 47, 3) := by decide +kernel
theorem dX8_lawfulBy_12 : decode cX8_lawfulBy 12 = .ok (.iload_n 2, 1) := by decide +kernel
theorem dX8_lawfulBy_13 : decode cX8_lawfulBy 13 = .ok (.aload_n 0, 1) := by decide +kernel
theorem dX8_lawfulBy_14 : decode cX8_lawfulBy 14 = .ok (.getfield 35, 3) := by decide +kernel
theorem dX8_lawfulBy_17 : decode cX8_lawfulBy 17 = .ok (.iload_n 2, 1) := by decide +kernel
theorem dX8_lawfulBy_18 : decode cX8_lawfulBy 18 = .ok (.iaload, 1) := by decide +kernel
theorem dX8_lawfulBy_19 : decode cX8_lawfulBy 19 = .ok (.iastore, 1) := by decide +kernel
theorem dX8_lawfulBy_20 : decode cX8_lawfulBy 20 = .ok (.iinc 2 1, 3) := by decide +kernel
theorem dX8_lawfulBy_23 : decode cX8_lawfulBy 23 = .ok (.goto (-21), 3) := by decide +kernel
theorem dX8_lawfulBy_26 : decode cX8_lawfulBy 26 = .ok (.iload_n 1, 1) := by decide +kernel
theorem dX8_lawfulBy_27 : decode cX8_lawfulBy 27 = .ok (.istore_n 2, 1) := by decide +kernel
theorem dX8_lawfulBy_28 : decode cX8_lawfulBy 28 = .ok (.iconst 0, 1) := by decide +kernel
theorem dX8_lawfulBy_29 : decode cX8_lawfulBy 29 = .ok (.istore_n 3, 1) := by decide +kernel
theorem dX8_lawfulBy_30 : decode cX8_lawfulBy 30 = .ok (.iload_n 3, 1) := by decide +kernel
theorem dX8_lawfulBy_31 : decode cX8_lawfulBy 31 = .ok (.aload_n 0, 1) := by decide +kernel
theorem dX8_lawfulBy_32 : decode cX8_lawfulBy 32 = .ok (.getfield 82, 3) := by decide +kernel
theorem dX8_lawfulBy_35 : decode cX8_lawfulBy 35 = .ok (.if_icmp .ge 62, 3) := by decide +kernel
theorem dX8_lawfulBy_38 : decode cX8_lawfulBy 38 = .ok (.iconst 0, 1) := by decide +kernel
theorem dX8_lawfulBy_39 : decode cX8_lawfulBy 39 = .ok (.istore 4, 2) := by decide +kernel
theorem dX8_lawfulBy_41 : decode cX8_lawfulBy 41 = .ok (.iload 4, 2) := by decide +kernel
theorem dX8_lawfulBy_43 : decode cX8_lawfulBy 43 = .ok (.aload_n 0, 1) := by decide +kernel
theorem dX8_lawfulBy_44 : decode cX8_lawfulBy 44 = .ok (.getfield 82, 3) := by decide +kernel
theorem dX8_lawfulBy_47 : decode cX8_lawfulBy 47 = .ok (.if_icmp .ge 44, 3) := by decide +kernel
theorem dX8_lawfulBy_50 : decode cX8_lawfulBy 50 = .ok (.iload_n 3, 1) := by decide +kernel
theorem dX8_lawfulBy_51 : decode cX8_lawfulBy 51 = .ok (.iload 4, 2) := by decide +kernel
theorem dX8_lawfulBy_53 : decode cX8_lawfulBy 53 = .ok (.if_icmp .eq 32, 3) := by decide +kernel
theorem dX8_lawfulBy_56 : decode cX8_lawfulBy 56 = .ok (.iload_n 2, 1) := by decide +kernel
theorem dX8_lawfulBy_57 : decode cX8_lawfulBy 57 = .ok (.ldc_w 387, 3) := by decide +kernel
theorem dX8_lawfulBy_60 : decode cX8_lawfulBy 60 = .ok (.imul, 1) := by decide +kernel
theorem dX8_lawfulBy_61 : decode cX8_lawfulBy 61 = .ok (.sipush 12345, 3) := by decide +kernel
theorem dX8_lawfulBy_64 : decode cX8_lawfulBy 64 = .ok (.iadd, 1) := by decide +kernel
theorem dX8_lawfulBy_65 : decode cX8_lawfulBy 65 = .ok (.istore_n 2, 1) := by decide +kernel
theorem dX8_lawfulBy_66 : decode cX8_lawfulBy 66 = .ok (.aload_n 0, 1) := by decide +kernel
theorem dX8_lawfulBy_67 : decode cX8_lawfulBy 67 = .ok (.getfield 35, 3) := by decide +kernel
theorem dX8_lawfulBy_70 : decode cX8_lawfulBy 70 = .ok (.bipush 7, 2) := by decide +kernel
theorem dX8_lawfulBy_72 : decode cX8_lawfulBy 72 = .ok (.iload_n 3, 1) := by decide +kernel
theorem dX8_lawfulBy_73 : decode cX8_lawfulBy 73 = .ok (.imul, 1) := by decide +kernel
theorem dX8_lawfulBy_74 : decode cX8_lawfulBy 74 = .ok (.iload 4, 2) := by decide +kernel
theorem dX8_lawfulBy_76 : decode cX8_lawfulBy 76 = .ok (.iadd, 1) := by decide +kernel
theorem dX8_lawfulBy_77 : decode cX8_lawfulBy 77 = .ok (.iload_n 2, 1) := by decide +kernel
theorem dX8_lawfulBy_78 : decode cX8_lawfulBy 78 = .ok (.bipush 9, 2) := by decide +kernel
theorem dX8_lawfulBy_80 : decode cX8_lawfulBy 80 = .ok (.iushr, 1) := by decide +kernel
theorem dX8_lawfulBy_81 : decode cX8_lawfulBy 81 = .ok (.bipush 100, 2) := by decide +kernel
theorem dX8_lawfulBy_83 : decode cX8_lawfulBy 83 = .ok (.irem, 1) := by decide +kernel
theorem dX8_lawfulBy_84 : decode cX8_lawfulBy 84 = .ok (.iastore, 1) := by decide +kernel
theorem dX8_lawfulBy_85 : decode cX8_lawfulBy 85 = .ok (.iinc 4 1, 3) := by decide +kernel
theorem dX8_lawfulBy_88 : decode cX8_lawfulBy 88 = .ok (.goto (-47), 3) := by decide +kernel
theorem dX8_lawfulBy_91 : decode cX8_lawfulBy 91 = .ok (.iinc 3 1, 3) := by decide +kernel
theorem dX8_lawfulBy_94 : decode cX8_lawfulBy 94 = .ok (.goto (-64), 3) := by decide +kernel
theorem dX8_lawfulBy_97 : decode cX8_lawfulBy 97 = .ok (.aload_n 0, 1) := by decide +kernel
theorem dX8_lawfulBy_98 : decode cX8_lawfulBy 98 = .ok (.iconst 0, 1) := by decide +kernel
theorem dX8_lawfulBy_99 : decode cX8_lawfulBy 99 = .ok (.iconst 0, 1) := by decide +kernel
theorem dX8_lawfulBy_100 : decode cX8_lawfulBy 100 = .ok (.invokevirtual 347, 3) := by decide +kernel
theorem dX8_lawfulBy_103 : decode cX8_lawfulBy 103 = .ok (.aload_n 0, 1) := by decide +kernel
theorem dX8_lawfulBy_104 : decode cX8_lawfulBy 104 = .ok (.aload_n 0, 1) := by decide +kernel
theorem dX8_lawfulBy_105 : decode cX8_lawfulBy 105 = .ok (.getfield 82, 3) := by decide +kernel
theorem dX8_lawfulBy_108 : decode cX8_lawfulBy 108 = .ok (.putfield 255, 3) := by decide +kernel
theorem dX8_lawfulBy_111 : decode cX8_lawfulBy 111 = .ok (.aload_n 0, 1) := by decide +kernel
theorem dX8_lawfulBy_112 : decode cX8_lawfulBy 112 = .ok (.iconst 0, 1) := by decide +kernel
theorem dX8_lawfulBy_113 : decode cX8_lawfulBy 113 = .ok (.aload_n 0, 1) := by decide +kernel
theorem dX8_lawfulBy_114 : decode cX8_lawfulBy 114 = .ok (.invokevirtual 356, 3) := by decide +kernel
theorem dX8_lawfulBy_117 : decode cX8_lawfulBy 117 = .ok (.invokevirtual 388, 3) := by decide +kernel
theorem dX8_lawfulBy_120 : decode cX8_lawfulBy 120 = .ok (.iconst 0, 1) := by decide +kernel
theorem dX8_lawfulBy_121 : decode cX8_lawfulBy 121 = .ok (.istore_n 3, 1) := by decide +kernel
theorem dX8_lawfulBy_122 : decode cX8_lawfulBy 122 = .ok (.iload_n 3, 1) := by decide +kernel
theorem dX8_lawfulBy_123 : decode cX8_lawfulBy 123 = .ok (.bipush 49, 2) := by decide +kernel
theorem dX8_lawfulBy_125 : decode cX8_lawfulBy 125 = .ok (.if_icmp .ge 21, 3) := by decide +kernel
theorem dX8_lawfulBy_128 : decode cX8_lawfulBy 128 = .ok (.aload_n 0, 1) := by decide +kernel
theorem dX8_lawfulBy_129 : decode cX8_lawfulBy 129 = .ok (.getfield 35, 3) := by decide +kernel
theorem dX8_lawfulBy_132 : decode cX8_lawfulBy 132 = .ok (.iload_n 3, 1) := by decide +kernel
theorem dX8_lawfulBy_133 : decode cX8_lawfulBy 133 = .ok (.aload_n 0, 1) := by decide +kernel
theorem dX8_lawfulBy_134 : decode cX8_lawfulBy 134 = .ok (.getfield 47, 3) := by decide +kernel
theorem dX8_lawfulBy_137 : decode cX8_lawfulBy 137 = .ok (.iload_n 3, 1) := by decide +kernel
theorem dX8_lawfulBy_138 : decode cX8_lawfulBy 138 = .ok (.iaload, 1) := by decide +kernel
theorem dX8_lawfulBy_139 : decode cX8_lawfulBy 139 = .ok (.iastore, 1) := by decide +kernel
theorem dX8_lawfulBy_140 : decode cX8_lawfulBy 140 = .ok (.iinc 3 1, 3) := by decide +kernel
theorem dX8_lawfulBy_143 : decode cX8_lawfulBy 143 = .ok (.goto (-21), 3) := by decide +kernel
theorem dX8_lawfulBy_146 : decode cX8_lawfulBy 146 = .ok (.aload_n 0, 1) := by decide +kernel
theorem dX8_lawfulBy_147 : decode cX8_lawfulBy 147 = .ok (.getfield 317, 3) := by decide +kernel
theorem dX8_lawfulBy_150 : decode cX8_lawfulBy 150 = .ok (.ireturn, 1) := by decide +kernel
theorem dX8_counts_0 : decode cX8_counts 0 = .ok (.iload_n 2, 1) := by decide +kernel
theorem dX8_counts_1 : decode cX8_counts 1 = .ok (.ifCond .ne 26, 3) := by decide +kernel
theorem dX8_counts_4 : decode cX8_counts 4 = .ok (.aload_n 0, 1) := by decide +kernel
theorem dX8_counts_5 : decode cX8_counts 5 = .ok (.dup, 1) := by decide +kernel
theorem dX8_counts_6 : decode cX8_counts 6 = .ok (.getfield 317, 3) := by decide +kernel
theorem dX8_counts_9 : decode cX8_counts 9 = .ok (.aload_n 0, 1) := by decide +kernel
theorem dX8_counts_10 : decode cX8_counts 10 = .ok (.invokevirtual 308, 3) := by decide +kernel
theorem dX8_counts_13 : decode cX8_counts 13 = .ok (.iconst (-1), 1) := by decide +kernel
theorem dX8_counts_14 : decode cX8_counts 14 = .ok (.if_icmp .ne 7, 3) := by decide +kernel
theorem dX8_counts_17 : decode cX8_counts 17 = .ok (.iconst 1, 1) := by decide +kernel
theorem dX8_counts_18 : decode cX8_counts 18 = .ok (.goto 4, 3) := by decide +kernel
theorem dX8_counts_21 : decode cX8_counts 21 = .ok (.iconst 0, 1) := by decide +kernel
theorem dX8_counts_22 : decode cX8_counts 22 = .ok (.iadd, 1) := by decide +kernel
theorem dX8_counts_23 : decode cX8_counts 23 = .ok (.putfield 317, 3) := by decide +kernel
theorem dX8_counts_26 : decode cX8_counts 26 = .ok (.return_, 1) := by decide +kernel
theorem dX8_counts_27 : decode cX8_counts 27 = .ok (.iconst 0, 1) := by decide +kernel
theorem dX8_counts_28 : decode cX8_counts 28 = .ok (.istore_n 3, 1) := by decide +kernel
theorem dX8_counts_29 : decode cX8_counts 29 = .ok (.iload_n 3, 1) := by decide +kernel
theorem dX8_counts_30 : decode cX8_counts 30 = .ok (.aload_n 0, 1) := by decide +kernel
theorem dX8_counts_31 : decode cX8_counts 31 = .ok (.getfield 82, 3) := by decide +kernel
theorem dX8_counts_34 : decode cX8_counts 34 = .ok (.if_icmp .ge 52, 3) := by decide +kernel
theorem dX8_counts_37 : decode cX8_counts 37 = .ok (.iload_n 2, 1) := by decide +kernel
theorem dX8_counts_38 : decode cX8_counts 38 = .ok (.iload_n 3, 1) := by decide +kernel
theorem dX8_counts_39 : decode cX8_counts 39 = .ok (.ishr, 1) := by decide +kernel
theorem dX8_counts_40 : decode cX8_counts 40 = .ok (.iconst 1, 1) := by decide +kernel
theorem dX8_counts_41 : decode cX8_counts 41 = .ok (.iand, 1) := by decide +kernel
theorem dX8_counts_42 : decode cX8_counts 42 = .ok (.iconst 1, 1) := by decide +kernel
theorem dX8_counts_43 : decode cX8_counts 43 = .ok (.if_icmp .ne 37, 3) := by decide +kernel
theorem dX8_counts_46 : decode cX8_counts 46 = .ok (.aload_n 0, 1) := by decide +kernel
theorem dX8_counts_47 : decode cX8_counts 47 = .ok (.getfield 41, 3) := by decide +kernel
theorem dX8_counts_50 : decode cX8_counts 50 = .ok (.iload_n 1, 1) := by decide +kernel
theorem dX8_counts_51 : decode cX8_counts 51 = .ok (.iload_n 3, 1) := by decide +kernel
theorem dX8_counts_52 : decode cX8_counts 52 = .ok (.iastore, 1) := by decide +kernel
theorem dX8_counts_53 : decode cX8_counts 53 = .ok (.aload_n 0, 1) := by decide +kernel
theorem dX8_counts_54 : decode cX8_counts 54 = .ok (.iload_n 1, 1) := by decide +kernel
theorem dX8_counts_55 : decode cX8_counts 55 = .ok (.iconst 1, 1) := by decide +kernel
theorem dX8_counts_56 : decode cX8_counts 56 = .ok (.iadd, 1) := by decide +kernel
theorem dX8_counts_57 : decode cX8_counts 57 = .ok (.iload_n 2, 1) := by decide +kernel
theorem dX8_counts_58 : decode cX8_counts 58 = .ok (.iconst 1, 1) := by decide +kernel
theorem dX8_counts_59 : decode cX8_counts 59 = .ok (.iload_n 3, 1) := by decide +kernel
theorem dX8_counts_60 : decode cX8_counts 60 = .ok (.ishl, 1) := by decide +kernel
theorem dX8_counts_61 : decode cX8_counts 61 = .ok (.iconst (-1), 1) := by decide +kernel
theorem dX8_counts_62 : decode cX8_counts 62 = .ok (.ixor, 1) := by decide +kernel
theorem dX8_counts_63 : decode cX8_counts 63 = .ok (.iand, 1) := by decide +kernel
theorem dX8_counts_64 : decode cX8_counts 64 = .ok (.invokevirtual 388, 3) := by decide +kernel
theorem dX8_counts_67 : decode cX8_counts 67 = .ok (.iload_n 1, 1) := by decide +kernel
theorem dX8_counts_68 : decode cX8_counts 68 = .ok (.ifCond .ne 12, 3) := by decide +kernel
theorem dX8_counts_71 : decode cX8_counts 71 = .ok (.aload_n 0, 1) := by decide +kernel
theorem dX8_counts_72 : decode cX8_counts 72 = .ok (.getfield 23, 3) := by decide +kernel
theorem dX8_counts_75 : decode cX8_counts 75 = .ok (.iconst 1, 1) := by decide +kernel
theorem dX8_counts_76 : decode cX8_counts 76 = .ok (.if_icmp .ne 4, 3) := by decide +kernel
theorem dX8_counts_79 : decode cX8_counts 79 = .ok (.return_, 1) := by decide +kernel
theorem dX8_counts_80 : decode cX8_counts 80 = .ok (.iinc 3 1, 3) := by decide +kernel
theorem dX8_counts_83 : decode cX8_counts 83 = .ok (.goto (-54), 3) := by decide +kernel
theorem dX8_counts_86 : decode cX8_counts 86 = .ok (.return_, 1) := by decide +kernel
theorem dX8_drawn_0 : decode cX8_drawn 0 = .ok (.aload_n 0, 1) := by decide +kernel
theorem dX8_drawn_1 : decode cX8_drawn 1 = .ok (.iload_n 1, 1) := by decide +kernel
theorem dX8_drawn_2 : decode cX8_drawn 2 = .ok (.invokevirtual 391, 3) := by decide +kernel
theorem dX8_drawn_5 : decode cX8_drawn 5 = .ok (.ireturn, 1) := by decide +kernel
theorem dX8_chance_0 : decode cX8_chance 0 = .ok (.iload_n 2, 1) := by decide +kernel
theorem dX8_chance_1 : decode cX8_chance 1 = .ok (.i2l, 1) := by decide +kernel
theorem dX8_chance_2 : decode cX8_chance 2 = .ok (.lconst 1, 1) := by decide +kernel
theorem dX8_chance_3 : decode cX8_chance 3 = .ok (.ldc2_w 366, 3) := by decide +kernel
theorem dX8_chance_6 : decode cX8_chance 6 = .ok (.invokestatic 85, 3) := by decide +kernel
theorem dX8_chance_9 : decode cX8_chance 9 = .ok (.ifCond .eq 13, 3) := by decide +kernel
theorem dX8_chance_12 : decode cX8_chance 12 = .ok (.iload_n 3, 1) := by decide +kernel
theorem dX8_chance_13 : decode cX8_chance 13 = .ok (.i2l, 1) := by decide +kernel
theorem dX8_chance_14 : decode cX8_chance 14 = .ok (.lconst 0, 1) := by decide +kernel
theorem dX8_chance_15 : decode cX8_chance 15 = .ok (.lconst 1, 1) := by decide +kernel
theorem dX8_chance_16 : decode cX8_chance 16 = .ok (.invokestatic 85, 3) := by decide +kernel
theorem dX8_chance_19 : decode cX8_chance 19 = .ok (.ifCond .ne 7, 3) := by decide +kernel
theorem dX8_chance_22 : decode cX8_chance 22 = .ok (.ldc2_w 394, 3) := by decide +kernel
theorem dX8_chance_25 : decode cX8_chance 25 = .ok (.lreturn, 1) := by decide +kernel
theorem dX8_chance_26 : decode cX8_chance 26 = .ok (.lconst 0, 1) := by decide +kernel
theorem dX8_chance_27 : decode cX8_chance 27 = .ok (.lstore 4, 2) := by decide +kernel
theorem dX8_chance_29 : decode cX8_chance 29 = .ok (.iconst 0, 1) := by decide +kernel
theorem dX8_chance_30 : decode cX8_chance 30 = .ok (.istore 6, 2) := by decide +kernel
theorem dX8_chance_32 : decode cX8_chance 32 = .ok (.iload 6, 2) := by decide +kernel
theorem dX8_chance_34 : decode cX8_chance 34 = .ok (.iload_n 2, 1) := by decide +kernel
theorem dX8_chance_35 : decode cX8_chance 35 = .ok (.if_icmp .ge 30, 3) := by decide +kernel
theorem dX8_chance_38 : decode cX8_chance 38 = .ok (.lload 4, 2) := by decide +kernel
theorem dX8_chance_40 : decode cX8_chance 40 = .ok (.aload_n 0, 1) := by decide +kernel
theorem dX8_chance_41 : decode cX8_chance 41 = .ok (.iload_n 1, 1) := by decide +kernel
theorem dX8_chance_42 : decode cX8_chance 42 = .ok (.iload 6, 2) := by decide +kernel
theorem dX8_chance_44 : decode cX8_chance 44 = .ok (.iadd, 1) := by decide +kernel
theorem dX8_chance_45 : decode cX8_chance 45 = .ok (.invokevirtual 391, 3) := by decide +kernel
theorem dX8_chance_48 : decode cX8_chance 48 = .ok (.ifCond .le 7, 3) := by decide +kernel
theorem dX8_chance_51 : decode cX8_chance 51 = .ok (.lconst 1, 1) := by decide +kernel
theorem dX8_chance_52 : decode cX8_chance 52 = .ok (.goto 4, 3) := by decide +kernel
theorem dX8_chance_55 : decode cX8_chance 55 = .ok (.lconst 0, 1) := by decide +kernel
theorem dX8_chance_56 : decode cX8_chance 56 = .ok (.ladd, 1) := by decide +kernel
theorem dX8_chance_57 : decode cX8_chance 57 = .ok (.lstore 4, 2) := by decide +kernel
theorem dX8_chance_59 : decode cX8_chance 59 = .ok (.iinc 6 1, 3) := by decide +kernel
theorem dX8_chance_62 : decode cX8_chance 62 = .ok (.goto (-30), 3) := by decide +kernel
theorem dX8_chance_65 : decode cX8_chance 65 = .ok (.lload 4, 2) := by decide +kernel
theorem dX8_chance_67 : decode cX8_chance 67 = .ok (.lstore 6, 2) := by decide +kernel
theorem dX8_chance_69 : decode cX8_chance 69 = .ok (.iload_n 2, 1) := by decide +kernel
theorem dX8_chance_70 : decode cX8_chance 70 = .ok (.i2l, 1) := by decide +kernel
theorem dX8_chance_71 : decode cX8_chance 71 = .ok (.lstore 8, 2) := by decide +kernel
theorem dX8_chance_73 : decode cX8_chance 73 = .ok (.lload 8, 2) := by decide +kernel
theorem dX8_chance_75 : decode cX8_chance 75 = .ok (.lconst 0, 1) := by decide +kernel
theorem dX8_chance_76 : decode cX8_chance 76 = .ok (.lcmp, 1) := by decide +kernel
theorem dX8_chance_77 : decode cX8_chance 77 = .ok (.ifCond .eq 21, 3) := by decide +kernel
theorem dX8_chance_80 : decode cX8_chance 80 = .ok (.lload 6, 2) := by decide +kernel
theorem dX8_chance_82 : decode cX8_chance 82 = .ok (.lload 8, 2) := by decide +kernel
theorem dX8_chance_84 : decode cX8_chance 84 = .ok (.lrem, 1) := by decide +kernel
theorem dX8_chance_85 : decode cX8_chance 85 = .ok (.lstore 10, 2) := by decide +kernel
theorem dX8_chance_87 : decode cX8_chance 87 = .ok (.lload 8, 2) := by decide +kernel
theorem dX8_chance_89 : decode cX8_chance 89 = .ok (.lstore 6, 2) := by decide +kernel
theorem dX8_chance_91 : decode cX8_chance 91 = .ok (.lload 10, 2) := by decide +kernel
theorem dX8_chance_93 : decode cX8_chance 93 = .ok (.lstore 8, 2) := by decide +kernel
theorem dX8_chance_95 : decode cX8_chance 95 = .ok (.goto (-22), 3) := by decide +kernel
theorem dX8_chance_98 : decode cX8_chance 98 = .ok (.iload_n 3, 1) := by decide +kernel
theorem dX8_chance_99 : decode cX8_chance 99 = .ok (.ifCond .ne 11, 3) := by decide +kernel
theorem dX8_chance_102 : decode cX8_chance 102 = .ok (.lload 4, 2) := by decide +kernel
theorem dX8_chance_104 : decode cX8_chance 104 = .ok (.lload 6, 2) := by decide +kernel
theorem dX8_chance_106 : decode cX8_chance 106 = .ok (.ldiv, 1) := by decide +kernel
theorem dX8_chance_107 : decode cX8_chance 107 = .ok (.goto 8, 3) := by decide +kernel
theorem dX8_chance_110 : decode cX8_chance 110 = .ok (.iload_n 2, 1) := by decide +kernel
theorem dX8_chance_111 : decode cX8_chance 111 = .ok (.i2l, 1) := by decide +kernel
theorem dX8_chance_112 : decode cX8_chance 112 = .ok (.lload 6, 2) := by decide +kernel
theorem dX8_chance_114 : decode cX8_chance 114 = .ok (.ldiv, 1) := by decide +kernel
theorem dX8_chance_115 : decode cX8_chance 115 = .ok (.lreturn, 1) := by decide +kernel
theorem dX8_image_0 : decode cX8_image 0 = .ok (.iconst 0, 1) := by decide +kernel
theorem dX8_image_1 : decode cX8_image 1 = .ok (.istore_n 1, 1) := by decide +kernel
theorem dX8_image_2 : decode cX8_image 2 = .ok (.iload_n 1, 1) := by decide +kernel
theorem dX8_image_3 : decode cX8_image 3 = .ok (.bipush 7, 2) := by decide +kernel
theorem dX8_image_5 : decode cX8_image 5 = .ok (.if_icmp .ge 33, 3) := by decide +kernel
theorem dX8_image_8 : decode cX8_image 8 = .ok (.aload_n 0, 1) := by decide +kernel
theorem dX8_image_9 : decode cX8_image 9 = .ok (.getfield 50, 3) := by decide +kernel
theorem dX8_image_12 : decode cX8_image 12 = .ok (.iload_n 1, 1) := by decide +kernel
theorem dX8_image_13 : decode cX8_image 13 = .ok (.aload_n 0, 1) := by decide +kernel
theorem dX8_image_14 : decode cX8_image 14 = .ok (.getfield 29, 3) := by decide +kernel
theorem dX8_image_17 : decode cX8_image 17 = .ok (.iload_n 1, 1) := by decide +kernel
theorem dX8_image_18 : decode cX8_image 18 = .ok (.iaload, 1) := by decide +kernel
theorem dX8_image_19 : decode cX8_image 19 = .ok (.iastore, 1) := by decide +kernel
theorem dX8_image_20 : decode cX8_image 20 = .ok (.aload_n 0, 1) := by decide +kernel
theorem dX8_image_21 : decode cX8_image 21 = .ok (.getfield 53, 3) := by decide +kernel
theorem dX8_image_24 : decode cX8_image 24 = .ok (.iload_n 1, 1) := by decide +kernel
theorem dX8_image_25 : decode cX8_image 25 = .ok (.aload_n 0, 1) := by decide +kernel
theorem dX8_image_26 : decode cX8_image 26 = .ok (.getfield 32, 3) := by decide +kernel
theorem dX8_image_29 : decode cX8_image 29 = .ok (.iload_n 1, 1) := by decide +kernel
theorem dX8_image_30 : decode cX8_image 30 = .ok (.iaload, 1) := by decide +kernel
theorem dX8_image_31 : decode cX8_image 31 = .ok (.iastore, 1) := by decide +kernel
theorem dX8_image_32 : decode cX8_image 32 = .ok (.iinc 1 1, 3) := by decide +kernel
theorem dX8_image_35 : decode cX8_image 35 = .ok (.goto (-33), 3) := by decide +kernel
theorem dX8_image_38 : decode cX8_image 38 = .ok (.iconst 0, 1) := by decide +kernel
theorem dX8_image_39 : decode cX8_image 39 = .ok (.istore_n 1, 1) := by decide +kernel
theorem dX8_image_40 : decode cX8_image 40 = .ok (.iload_n 1, 1) := by decide +kernel
theorem dX8_image_41 : decode cX8_image 41 = .ok (.bipush 49, 2) := by decide +kernel
theorem dX8_image_43 : decode cX8_image 43 = .ok (.if_icmp .ge 21, 3) := by decide +kernel
theorem dX8_image_46 : decode cX8_image 46 = .ok (.aload_n 0, 1) := by decide +kernel
theorem dX8_image_47 : decode cX8_image 47 = .ok (.getfield 56, 3) := by decide +kernel
theorem dX8_image_50 : decode cX8_image 50 = .ok (.iload_n 1, 1) := by decide +kernel
theorem dX8_image_51 : decode cX8_image 51 = .ok (.aload_n 0, 1) := by decide +kernel
theorem dX8_image_52 : decode cX8_image 52 = .ok (.getfield 35, 3) := by decide +kernel
theorem dX8_image_55 : decode cX8_image 55 = .ok (.iload_n 1, 1) := by decide +kernel
theorem dX8_image_56 : decode cX8_image 56 = .ok (.iaload, 1) := by decide +kernel
theorem dX8_image_57 : decode cX8_image 57 = .ok (.iastore, 1) := by decide +kernel
theorem dX8_image_58 : decode cX8_image 58 = .ok (.iinc 1 1, 3) := by decide +kernel
theorem dX8_image_61 : decode cX8_image 61 = .ok (.goto (-21), 3) := by decide +kernel
theorem dX8_image_64 : decode cX8_image 64 = .ok (.aload_n 0, 1) := by decide +kernel
theorem dX8_image_65 : decode cX8_image 65 = .ok (.aload_n 0, 1) := by decide +kernel
theorem dX8_image_66 : decode cX8_image 66 = .ok (.getfield 82, 3) := by decide +kernel
theorem dX8_image_69 : decode cX8_image 69 = .ok (.putfield 59, 3) := by decide +kernel
theorem dX8_image_72 : decode cX8_image 72 = .ok (.aload_n 0, 1) := by decide +kernel
theorem dX8_image_73 : decode cX8_image 73 = .ok (.aload_n 0, 1) := by decide +kernel
theorem dX8_image_74 : decode cX8_image 74 = .ok (.getfield 23, 3) := by decide +kernel
theorem dX8_image_77 : decode cX8_image 77 = .ok (.putfield 396, 3) := by decide +kernel
theorem dX8_image_80 : decode cX8_image 80 = .ok (.aload_n 0, 1) := by decide +kernel
theorem dX8_image_81 : decode cX8_image 81 = .ok (.aload_n 0, 1) := by decide +kernel
theorem dX8_image_82 : decode cX8_image 82 = .ok (.getfield 111, 3) := by decide +kernel
theorem dX8_image_85 : decode cX8_image 85 = .ok (.putfield 399, 3) := by decide +kernel
theorem dX8_image_88 : decode cX8_image 88 = .ok (.aload_n 0, 1) := by decide +kernel
theorem dX8_image_89 : decode cX8_image 89 = .ok (.aload_n 0, 1) := by decide +kernel
theorem dX8_image_90 : decode cX8_image 90 = .ok (.getfield 252, 3) := by decide +kernel
theorem dX8_image_93 : decode cX8_image 93 = .ok (.putfield 402, 3) := by decide +kernel
theorem dX8_image_96 : decode cX8_image 96 = .ok (.aload_n 0, 1) := by decide +kernel
theorem dX8_image_97 : decode cX8_image 97 = .ok (.getfield 82, 3) := by decide +kernel
theorem dX8_image_100 : decode cX8_image 100 = .ok (.ireturn, 1) := by decide +kernel
theorem dX8_back_0 : decode cX8_back 0 = .ok (.aload_n 0, 1) := by decide +kernel
theorem dX8_back_1 : decode cX8_back 1 = .ok (.getfield 59, 3) := by decide +kernel
theorem dX8_back_4 : decode cX8_back 4 = .ok (.iconst (-1), 1) := by decide +kernel
theorem dX8_back_5 : decode cX8_back 5 = .ok (.if_icmp .ne 6, 3) := by decide +kernel
theorem dX8_back_8 : decode cX8_back 8 = .ok (.bipush (-3), 2) := by decide +kernel
theorem dX8_back_10 : decode cX8_back 10 = .ok (.ireturn, 1) := by decide +kernel
theorem dX8_back_11 : decode cX8_back 11 = .ok (.iconst 0, 1) := by decide +kernel
theorem dX8_back_12 : decode cX8_back 12 = .ok (.istore_n 1, 1) := by decide +kernel
theorem dX8_back_13 : decode cX8_back 13 = .ok (.iload_n 1, 1) := by decide +kernel
theorem dX8_back_14 : decode cX8_back 14 = .ok (.bipush 7, 2) := by decide +kernel
theorem dX8_back_16 : decode cX8_back 16 = .ok (.if_icmp .ge 33, 3) := by decide +kernel
theorem dX8_back_19 : decode cX8_back 19 = .ok (.aload_n 0, 1) := by decide +kernel
theorem dX8_back_20 : decode cX8_back 20 = .ok (.getfield 29, 3) := by decide +kernel
theorem dX8_back_23 : decode cX8_back 23 = .ok (.iload_n 1, 1) := by decide +kernel
theorem dX8_back_24 : decode cX8_back 24 = .ok (.aload_n 0, 1) := by decide +kernel
theorem dX8_back_25 : decode cX8_back 25 = .ok (.getfield 50, 3) := by decide +kernel
theorem dX8_back_28 : decode cX8_back 28 = .ok (.iload_n 1, 1) := by decide +kernel
theorem dX8_back_29 : decode cX8_back 29 = .ok (.iaload, 1) := by decide +kernel
theorem dX8_back_30 : decode cX8_back 30 = .ok (.iastore, 1) := by decide +kernel
theorem dX8_back_31 : decode cX8_back 31 = .ok (.aload_n 0, 1) := by decide +kernel
theorem dX8_back_32 : decode cX8_back 32 = .ok (.getfield 32, 3) := by decide +kernel
theorem dX8_back_35 : decode cX8_back 35 = .ok (.iload_n 1, 1) := by decide +kernel
theorem dX8_back_36 : decode cX8_back 36 = .ok (.aload_n 0, 1) := by decide +kernel
theorem dX8_back_37 : decode cX8_back 37 = .ok (.getfield 53, 3) := by decide +kernel
theorem dX8_back_40 : decode cX8_back 40 = .ok (.iload_n 1, 1) := by decide +kernel
theorem dX8_back_41 : decode cX8_back 41 = .ok (.iaload, 1) := by decide +kernel
theorem dX8_back_42 : decode cX8_back 42 = .ok (.iastore, 1) := by decide +kernel
theorem dX8_back_43 : decode cX8_back 43 = .ok (.iinc 1 1, 3) := by decide +kernel
theorem dX8_back_46 : decode cX8_back 46 = .ok (.goto (-33), 3) := by decide +kernel
theorem dX8_back_49 : decode cX8_back 49 = .ok (.iconst 0, 1) := by decide +kernel
theorem dX8_back_50 : decode cX8_back 50 = .ok (.istore_n 1, 1) := by decide +kernel
theorem dX8_back_51 : decode cX8_back 51 = .ok (.iload_n 1, 1) := by decide +kernel
theorem dX8_back_52 : decode cX8_back 52 = .ok (.bipush 49, 2) := by decide +kernel
theorem dX8_back_54 : decode cX8_back 54 = .ok (.if_icmp .ge 21, 3) := by decide +kernel
theorem dX8_back_57 : decode cX8_back 57 = .ok (.aload_n 0, 1) := by decide +kernel
theorem dX8_back_58 : decode cX8_back 58 = .ok (.getfield 35, 3) := by decide +kernel
theorem dX8_back_61 : decode cX8_back 61 = .ok (.iload_n 1, 1) := by decide +kernel
theorem dX8_back_62 : decode cX8_back 62 = .ok (.aload_n 0, 1) := by decide +kernel
theorem dX8_back_63 : decode cX8_back 63 = .ok (.getfield 56, 3) := by decide +kernel
theorem dX8_back_66 : decode cX8_back 66 = .ok (.iload_n 1, 1) := by decide +kernel
theorem dX8_back_67 : decode cX8_back 67 = .ok (.iaload, 1) := by decide +kernel
theorem dX8_back_68 : decode cX8_back 68 = .ok (.iastore, 1) := by decide +kernel
theorem dX8_back_69 : decode cX8_back 69 = .ok (.iinc 1 1, 3) := by decide +kernel
