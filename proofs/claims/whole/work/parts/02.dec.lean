theorem dX0_isKind_0 : decode cX0_isKind 0 = .ok (.iload_n 0, 1) := by decide +kernel
theorem dX0_isKind_1 : decode cX0_isKind 1 = .ok (.iconst 0, 1) := by decide +kernel
theorem dX0_isKind_2 : decode cX0_isKind 2 = .ok (.iconst 5, 1) := by decide +kernel
theorem dX0_isKind_3 : decode cX0_isKind 3 = .ok (.invokestatic 11, 3) := by decide +kernel
theorem dX0_isKind_6 : decode cX0_isKind 6 = .ok (.ireturn, 1) := by decide +kernel
theorem dX0_isUnder_0 : decode cX0_isUnder 0 = .ok (.iload_n 0, 1) := by decide +kernel
theorem dX0_isUnder_1 : decode cX0_isUnder 1 = .ok (.istore_n 2, 1) := by decide +kernel
theorem dX0_isUnder_2 : decode cX0_isUnder 2 = .ok (.iconst 0, 1) := by decide +kernel
theorem dX0_isUnder_3 : decode cX0_isUnder 3 = .ok (.istore_n 3, 1) := by decide +kernel
theorem dX0_isUnder_4 : decode cX0_isUnder 4 = .ok (.iload_n 3, 1) := by decide +kernel
theorem dX0_isUnder_5 : decode cX0_isUnder 5 = .ok (.bipush 6, 2) := by decide +kernel
theorem dX0_isUnder_7 : decode cX0_isUnder 7 = .ok (.if_icmp .ge 29, 3) := by decide +kernel
theorem dX0_isUnder_10 : decode cX0_isUnder 10 = .ok (.iload_n 2, 1) := by decide +kernel
theorem dX0_isUnder_11 : decode cX0_isUnder 11 = .ok (.invokestatic 15, 3) := by decide +kernel
theorem dX0_isUnder_14 : decode cX0_isUnder 14 = .ok (.ifCond .eq 22, 3) := by decide +kernel
theorem dX0_isUnder_17 : decode cX0_isUnder 17 = .ok (.iload_n 2, 1) := by decide +kernel
theorem dX0_isUnder_18 : decode cX0_isUnder 18 = .ok (.iload_n 1, 1) := by decide +kernel
theorem dX0_isUnder_19 : decode cX0_isUnder 19 = .ok (.if_icmp .ne 5, 3) := by decide +kernel
theorem dX0_isUnder_22 : decode cX0_isUnder 22 = .ok (.iconst 1, 1) := by decide +kernel
theorem dX0_isUnder_23 : decode cX0_isUnder 23 = .ok (.ireturn, 1) := by decide +kernel
theorem dX0_isUnder_24 : decode cX0_isUnder 24 = .ok (.getstatic 19, 3) := by decide +kernel
theorem dX0_isUnder_27 : decode cX0_isUnder 27 = .ok (.iload_n 2, 1) := by decide +kernel
theorem dX0_isUnder_28 : decode cX0_isUnder 28 = .ok (.iaload, 1) := by decide +kernel
theorem dX0_isUnder_29 : decode cX0_isUnder 29 = .ok (.istore_n 2, 1) := by decide +kernel
theorem dX0_isUnder_30 : decode cX0_isUnder 30 = .ok (.iinc 3 1, 3) := by decide +kernel
theorem dX0_isUnder_33 : decode cX0_isUnder 33 = .ok (.goto (-29), 3) := by decide +kernel
theorem dX0_isUnder_36 : decode cX0_isUnder 36 = .ok (.iconst 0, 1) := by decide +kernel
theorem dX0_isUnder_37 : decode cX0_isUnder 37 = .ok (.ireturn, 1) := by decide +kernel
theorem dX0_must_0 : decode cX0_must 0 = .ok (.iload_n 0, 1) := by decide +kernel
theorem dX0_must_1 : decode cX0_must 1 = .ok (.tableswitch 97 1 5 #[35, 49, 51, 71, 84], 35) := by decide +kernel
theorem dX0_must_36 : decode cX0_must 36 = .ok (.iload_n 2, 1) := by decide +kernel
theorem dX0_must_37 : decode cX0_must 37 = .ok (.bipush 10, 2) := by decide +kernel
theorem dX0_must_39 : decode cX0_must 39 = .ok (.iload_n 1, 1) := by decide +kernel
theorem dX0_must_40 : decode cX0_must 40 = .ok (.imul, 1) := by decide +kernel
theorem dX0_must_41 : decode cX0_must 41 = .ok (.if_icmp .le 7, 3) := by decide +kernel
theorem dX0_must_44 : decode cX0_must 44 = .ok (.iconst 1, 1) := by decide +kernel
theorem dX0_must_45 : decode cX0_must 45 = .ok (.goto 4, 3) := by decide +kernel
theorem dX0_must_48 : decode cX0_must 48 = .ok (.iconst 0, 1) := by decide +kernel
theorem dX0_must_49 : decode cX0_must 49 = .ok (.ireturn, 1) := by decide +kernel
theorem dX0_must_50 : decode cX0_must 50 = .ok (.iconst 0, 1) := by decide +kernel
theorem dX0_must_51 : decode cX0_must 51 = .ok (.ireturn, 1) := by decide +kernel
theorem dX0_must_52 : decode cX0_must 52 = .ok (.iload_n 1, 1) := by decide +kernel
theorem dX0_must_53 : decode cX0_must 53 = .ok (.iconst 2, 1) := by decide +kernel
theorem dX0_must_54 : decode cX0_must 54 = .ok (.irem, 1) := by decide +kernel
theorem dX0_must_55 : decode cX0_must 55 = .ok (.ifCond .ne 15, 3) := by decide +kernel
theorem dX0_must_58 : decode cX0_must 58 = .ok (.iload_n 2, 1) := by decide +kernel
theorem dX0_must_59 : decode cX0_must 59 = .ok (.bipush 10, 2) := by decide +kernel
theorem dX0_must_61 : decode cX0_must 61 = .ok (.iload_n 1, 1) := by decide +kernel
theorem dX0_must_62 : decode cX0_must 62 = .ok (.imul, 1) := by decide +kernel
theorem dX0_must_63 : decode cX0_must 63 = .ok (.if_icmp .le 7, 3) := by decide +kernel
theorem dX0_must_66 : decode cX0_must 66 = .ok (.iconst 1, 1) := by decide +kernel
theorem dX0_must_67 : decode cX0_must 67 = .ok (.goto 4, 3) := by decide +kernel
theorem dX0_must_70 : decode cX0_must 70 = .ok (.iconst 0, 1) := by decide +kernel
theorem dX0_must_71 : decode cX0_must 71 = .ok (.ireturn, 1) := by decide +kernel
theorem dX0_must_72 : decode cX0_must 72 = .ok (.iload_n 2, 1) := by decide +kernel
theorem dX0_must_73 : decode cX0_must 73 = .ok (.sipush 500, 3) := by decide +kernel
theorem dX0_must_76 : decode cX0_must 76 = .ok (.if_icmp .le 7, 3) := by decide +kernel
theorem dX0_must_79 : decode cX0_must 79 = .ok (.iconst 1, 1) := by decide +kernel
theorem dX0_must_80 : decode cX0_must 80 = .ok (.goto 4, 3) := by decide +kernel
theorem dX0_must_83 : decode cX0_must 83 = .ok (.iconst 0, 1) := by decide +kernel
theorem dX0_must_84 : decode cX0_must 84 = .ok (.ireturn, 1) := by decide +kernel
theorem dX0_must_85 : decode cX0_must 85 = .ok (.iload_n 2, 1) := by decide +kernel
theorem dX0_must_86 : decode cX0_must 86 = .ok (.iconst 2, 1) := by decide +kernel
theorem dX0_must_87 : decode cX0_must 87 = .ok (.irem, 1) := by decide +kernel
theorem dX0_must_88 : decode cX0_must 88 = .ok (.iconst 1, 1) := by decide +kernel
theorem dX0_must_89 : decode cX0_must 89 = .ok (.if_icmp .ne 7, 3) := by decide +kernel
theorem dX0_must_92 : decode cX0_must 92 = .ok (.iconst 1, 1) := by decide +kernel
theorem dX0_must_93 : decode cX0_must 93 = .ok (.goto 4, 3) := by decide +kernel
theorem dX0_must_96 : decode cX0_must 96 = .ok (.iconst 0, 1) := by decide +kernel
theorem dX0_must_97 : decode cX0_must 97 = .ok (.ireturn, 1) := by decide +kernel
theorem dX0_must_98 : decode cX0_must 98 = .ok (.iconst 1, 1) := by decide +kernel
theorem dX0_must_99 : decode cX0_must 99 = .ok (.ireturn, 1) := by decide +kernel
theorem dX0_letsGo_0 : decode cX0_letsGo 0 = .ok (.iload_n 0, 1) := by decide +kernel
theorem dX0_letsGo_1 : decode cX0_letsGo 1 = .ok (.tableswitch 65 1 5 #[35, 39, 43, 49, 63], 35) := by decide +kernel
theorem dX0_letsGo_36 : decode cX0_letsGo 36 = .ok (.iload_n 3, 1) := by decide +kernel
theorem dX0_letsGo_37 : decode cX0_letsGo 37 = .ok (.iconst 2, 1) := by decide +kernel
theorem dX0_letsGo_38 : decode cX0_letsGo 38 = .ok (.idiv, 1) := by decide +kernel
theorem dX0_letsGo_39 : decode cX0_letsGo 39 = .ok (.ireturn, 1) := by decide +kernel
theorem dX0_letsGo_40 : decode cX0_letsGo 40 = .ok (.iconst 2, 1) := by decide +kernel
theorem dX0_letsGo_41 : decode cX0_letsGo 41 = .ok (.iload_n 3, 1) := by decide +kernel
theorem dX0_letsGo_42 : decode cX0_letsGo 42 = .ok (.imul, 1) := by decide +kernel
theorem dX0_letsGo_43 : decode cX0_letsGo 43 = .ok (.ireturn, 1) := by decide +kernel
theorem dX0_letsGo_44 : decode cX0_letsGo 44 = .ok (.iload_n 3, 1) := by decide +kernel
theorem dX0_letsGo_45 : decode cX0_letsGo 45 = .ok (.iconst 2, 1) := by decide +kernel
theorem dX0_letsGo_46 : decode cX0_letsGo 46 = .ok (.idiv, 1) := by decide +kernel
theorem dX0_letsGo_47 : decode cX0_letsGo 47 = .ok (.iload_n 1, 1) := by decide +kernel
theorem dX0_letsGo_48 : decode cX0_letsGo 48 = .ok (.iadd, 1) := by decide +kernel
theorem dX0_letsGo_49 : decode cX0_letsGo 49 = .ok (.ireturn, 1) := by decide +kernel
theorem dX0_letsGo_50 : decode cX0_letsGo 50 = .ok (.iload_n 2, 1) := by decide +kernel
theorem dX0_letsGo_51 : decode cX0_letsGo 51 = .ok (.bipush 100, 2) := by decide +kernel
theorem dX0_letsGo_53 : decode cX0_letsGo 53 = .ok (.if_icmp .ge 7, 3) := by decide +kernel
theorem dX0_letsGo_56 : decode cX0_letsGo 56 = .ok (.iload_n 2, 1) := by decide +kernel
theorem dX0_letsGo_57 : decode cX0_letsGo 57 = .ok (.goto 6, 3) := by decide +kernel
theorem dX0_letsGo_60 : decode cX0_letsGo 60 = .ok (.iconst 2, 1) := by decide +kernel
theorem dX0_letsGo_61 : decode cX0_letsGo 61 = .ok (.iload_n 3, 1) := by decide +kernel
theorem dX0_letsGo_62 : decode cX0_letsGo 62 = .ok (.imul, 1) := by decide +kernel
theorem dX0_letsGo_63 : decode cX0_letsGo 63 = .ok (.ireturn, 1) := by decide +kernel
theorem dX0_letsGo_64 : decode cX0_letsGo 64 = .ok (.iconst 0, 1) := by decide +kernel
theorem dX0_letsGo_65 : decode cX0_letsGo 65 = .ok (.ireturn, 1) := by decide +kernel
theorem dX0_letsGo_66 : decode cX0_letsGo 66 = .ok (.iload_n 3, 1) := by decide +kernel
theorem dX0_letsGo_67 : decode cX0_letsGo 67 = .ok (.ireturn, 1) := by decide +kernel
theorem dX0_lends_0 : decode cX0_lends 0 = .ok (.iload_n 0, 1) := by decide +kernel
theorem dX0_lends_1 : decode cX0_lends 1 = .ok (.tableswitch 43 1 4 #[31, 33, 31, 37], 31) := by decide +kernel
theorem dX0_lends_32 : decode cX0_lends 32 = .ok (.iconst 0, 1) := by decide +kernel
theorem dX0_lends_33 : decode cX0_lends 33 = .ok (.ireturn, 1) := by decide +kernel
theorem dX0_lends_34 : decode cX0_lends 34 = .ok (.iload_n 2, 1) := by decide +kernel
theorem dX0_lends_35 : decode cX0_lends 35 = .ok (.iload_n 1, 1) := by decide +kernel
theorem dX0_lends_36 : decode cX0_lends 36 = .ok (.iadd, 1) := by decide +kernel
theorem dX0_lends_37 : decode cX0_lends 37 = .ok (.ireturn, 1) := by decide +kernel
theorem dX0_lends_38 : decode cX0_lends 38 = .ok (.iload_n 2, 1) := by decide +kernel
theorem dX0_lends_39 : decode cX0_lends 39 = .ok (.iload_n 1, 1) := by decide +kernel
theorem dX0_lends_40 : decode cX0_lends 40 = .ok (.iadd, 1) := by decide +kernel
theorem dX0_lends_41 : decode cX0_lends 41 = .ok (.iconst 2, 1) := by decide +kernel
theorem dX0_lends_42 : decode cX0_lends 42 = .ok (.idiv, 1) := by decide +kernel
theorem dX0_lends_43 : decode cX0_lends 43 = .ok (.ireturn, 1) := by decide +kernel
theorem dX0_lends_44 : decode cX0_lends 44 = .ok (.iload_n 2, 1) := by decide +kernel
theorem dX0_lends_45 : decode cX0_lends 45 = .ok (.ireturn, 1) := by decide +kernel
theorem dX0_glad_0 : decode cX0_glad 0 = .ok (.iload_n 3, 1) := by decide +kernel
theorem dX0_glad_1 : decode cX0_glad 1 = .ok (.ifCond .eq 10, 3) := by decide +kernel
theorem dX0_glad_4 : decode cX0_glad 4 = .ok (.iload_n 2, 1) := by decide +kernel
theorem dX0_glad_5 : decode cX0_glad 5 = .ok (.bipush 10, 2) := by decide +kernel
theorem dX0_glad_7 : decode cX0_glad 7 = .ok (.iadd, 1) := by decide +kernel
theorem dX0_glad_8 : decode cX0_glad 8 = .ok (.goto 4, 3) := by decide +kernel
theorem dX0_glad_11 : decode cX0_glad 11 = .ok (.iload_n 2, 1) := by decide +kernel
theorem dX0_glad_12 : decode cX0_glad 12 = .ok (.istore 4, 2) := by decide +kernel
theorem dX0_glad_14 : decode cX0_glad 14 = .ok (.iload_n 0, 1) := by decide +kernel
theorem dX0_glad_15 : decode cX0_glad 15 = .ok (.tableswitch 61 1 5 #[33, 47, 33, 52, 59], 33) := by decide +kernel
theorem dX0_glad_48 : decode cX0_glad 48 = .ok (.iload_n 3, 1) := by decide +kernel
theorem dX0_glad_49 : decode cX0_glad 49 = .ok (.ifCond .eq 8, 3) := by decide +kernel
theorem dX0_glad_52 : decode cX0_glad 52 = .ok (.iload 4, 2) := by decide +kernel
theorem dX0_glad_54 : decode cX0_glad 54 = .ok (.goto 7, 3) := by decide +kernel
theorem dX0_glad_57 : decode cX0_glad 57 = .ok (.iload 4, 2) := by decide +kernel
theorem dX0_glad_59 : decode cX0_glad 59 = .ok (.iconst 5, 1) := by decide +kernel
theorem dX0_glad_60 : decode cX0_glad 60 = .ok (.isub, 1) := by decide +kernel
theorem dX0_glad_61 : decode cX0_glad 61 = .ok (.ireturn, 1) := by decide +kernel
theorem dX0_glad_62 : decode cX0_glad 62 = .ok (.iconst 2, 1) := by decide +kernel
theorem dX0_glad_63 : decode cX0_glad 63 = .ok (.iload 4, 2) := by decide +kernel
theorem dX0_glad_65 : decode cX0_glad 65 = .ok (.imul, 1) := by decide +kernel
theorem dX0_glad_66 : decode cX0_glad 66 = .ok (.ireturn, 1) := by decide +kernel
theorem dX0_glad_67 : decode cX0_glad 67 = .ok (.iconst 2, 1) := by decide +kernel
theorem dX0_glad_68 : decode cX0_glad 68 = .ok (.iload 4, 2) := by decide +kernel
theorem dX0_glad_70 : decode cX0_glad 70 = .ok (.imul, 1) := by decide +kernel
theorem dX0_glad_71 : decode cX0_glad 71 = .ok (.iload_n 1, 1) := by decide +kernel
theorem dX0_glad_72 : decode cX0_glad 72 = .ok (.iadd, 1) := by decide +kernel
theorem dX0_glad_73 : decode cX0_glad 73 = .ok (.ireturn, 1) := by decide +kernel
theorem dX0_glad_74 : decode cX0_glad 74 = .ok (.iconst 3, 1) := by decide +kernel
theorem dX0_glad_75 : decode cX0_glad 75 = .ok (.ireturn, 1) := by decide +kernel
theorem dX0_glad_76 : decode cX0_glad 76 = .ok (.iload 4, 2) := by decide +kernel
theorem dX0_glad_78 : decode cX0_glad 78 = .ok (.ireturn, 1) := by decide +kernel
theorem dX1_init_0 : decode cX1_init 0 = .ok (.aload_n 0, 1) := by decide +kernel
theorem dX1_init_1 : decode cX1_init 1 = .ok (.invokespecial 3, 3) := by decide +kernel
theorem dX1_init_4 : decode cX1_init 4 = .ok (.aload_n 0, 1) := by decide +kernel
theorem dX1_init_5 : decode cX1_init 5 = .ok (.bipush 6, 2) := by decide +kernel
theorem dX1_init_7 : decode cX1_init 7 = .ok (.anewarray 9, 3) := by decide +kernel
theorem dX1_init_10 : decode cX1_init 10 = .ok (.putfield 11, 3) := by decide +kernel
theorem dX1_init_13 : decode cX1_init 13 = .ok (.aload_n 0, 1) := by decide +kernel
theorem dX1_init_14 : decode cX1_init 14 = .ok (.bipush 6, 2) := by decide +kernel
theorem dX1_init_16 : decode cX1_init 16 = .ok (.newarray .int, 2) := by decide +kernel
theorem dX1_init_18 : decode cX1_init 18 = .ok (.putfield 17, 3) := by decide +kernel
theorem dX1_init_21 : decode cX1_init 21 = .ok (.new 9, 3) := by decide +kernel
theorem dX1_init_24 : decode cX1_init 24 = .ok (.dup, 1) := by decide +kernel
theorem dX1_init_25 : decode cX1_init 25 = .ok (.iconst 3, 1) := by decide +kernel
theorem dX1_init_26 : decode cX1_init 26 = .ok (.newarray .int, 2) := by decide +kernel
theorem dX1_init_28 : decode cX1_init 28 = .ok (.dup, 1) := by decide +kernel
theorem dX1_init_29 : decode cX1_init 29 = .ok (.iconst 0, 1) := by decide +kernel
theorem dX1_init_30 : decode cX1_init 30 = .ok (.iconst 5, 1) := by decide +kernel
theorem dX1_init_31 : decode cX1_init 31 = .ok (.iastore, 1) := by decide +kernel
theorem dX1_init_32 : decode cX1_init 32 = .ok (.dup, 1) := by decide +kernel
theorem dX1_init_33 : decode cX1_init 33 = .ok (.iconst 1, 1) := by decide +kernel
theorem dX1_init_34 : decode cX1_init 34 = .ok (.iconst 2, 1) := by decide +kernel
theorem dX1_init_35 : decode cX1_init 35 = .ok (.iastore, 1) := by decide +kernel
theorem dX1_init_36 : decode cX1_init 36 = .ok (.dup, 1) := by decide +kernel
theorem dX1_init_37 : decode cX1_init 37 = .ok (.iconst 2, 1) := by decide +kernel
theorem dX1_init_38 : decode cX1_init 38 = .ok (.iconst 1, 1) := by decide +kernel
theorem dX1_init_39 : decode cX1_init 39 = .ok (.iastore, 1) := by decide +kernel
theorem dX1_init_40 : decode cX1_init 40 = .ok (.iconst 1, 1) := by decide +kernel
theorem dX1_init_41 : decode cX1_init 41 = .ok (.iconst 2, 1) := by decide +kernel
theorem dX1_init_42 : decode cX1_init 42 = .ok (.invokespecial 21, 3) := by decide +kernel
theorem dX1_init_45 : decode cX1_init 45 = .ok (.astore_n 1, 1) := by decide +kernel
theorem dX1_init_46 : decode cX1_init 46 = .ok (.iconst 0, 1) := by decide +kernel
theorem dX1_init_47 : decode cX1_init 47 = .ok (.istore_n 2, 1) := by decide +kernel
theorem dX1_init_48 : decode cX1_init 48 = .ok (.iload_n 2, 1) := by decide +kernel
theorem dX1_init_49 : decode cX1_init 49 = .ok (.bipush 6, 2) := by decide +kernel
theorem dX1_init_51 : decode cX1_init 51 = .ok (.if_icmp .ge 16, 3) := by decide +kernel
theorem dX1_init_54 : decode cX1_init 54 = .ok (.aload_n 0, 1) := by decide +kernel
theorem dX1_init_55 : decode cX1_init 55 = .ok (.getfield 11, 3) := by decide +kernel
theorem dX1_init_58 : decode cX1_init 58 = .ok (.iload_n 2, 1) := by decide +kernel
theorem dX1_init_59 : decode cX1_init 59 = .ok (.aload_n 1, 1) := by decide +kernel
theorem dX1_init_60 : decode cX1_init 60 = .ok (.aastore, 1) := by decide +kernel
theorem dX1_init_61 : decode cX1_init 61 = .ok (.iinc 2 1, 3) := by decide +kernel
theorem dX1_init_64 : decode cX1_init 64 = .ok (.goto (-16), 3) := by decide +kernel
theorem dX1_init_67 : decode cX1_init 67 = .ok (.return_, 1) := by decide +kernel
theorem dX1_factsOf_0 : decode cX1_factsOf 0 = .ok (.aload_n 0, 1) := by decide +kernel
theorem dX1_factsOf_1 : decode cX1_factsOf 1 = .ok (.getfield 17, 3) := by decide +kernel
theorem dX1_factsOf_4 : decode cX1_factsOf 4 = .ok (.iconst 0, 1) := by decide +kernel
theorem dX1_factsOf_5 : decode cX1_factsOf 5 = .ok (.aload_n 1, 1) := by decide +kernel
theorem dX1_factsOf_6 : decode cX1_factsOf 6 = .ok (.iload_n 3, 1) := by decide +kernel
theorem dX1_factsOf_7 : decode cX1_factsOf 7 = .ok (.iload_n 2, 1) := by decide +kernel
theorem dX1_factsOf_8 : decode cX1_factsOf 8 = .ok (.invokevirtual 24, 3) := by decide +kernel
theorem dX1_factsOf_11 : decode cX1_factsOf 11 = .ok (.iastore, 1) := by decide +kernel
theorem dX1_factsOf_12 : decode cX1_factsOf 12 = .ok (.aload_n 0, 1) := by decide +kernel
theorem dX1_factsOf_13 : decode cX1_factsOf 13 = .ok (.getfield 17, 3) := by decide +kernel
theorem dX1_factsOf_16 : decode cX1_factsOf 16 = .ok (.iconst 1, 1) := by decide +kernel
theorem dX1_factsOf_17 : decode cX1_factsOf 17 = .ok (.aload_n 1, 1) := by decide +kernel
theorem dX1_factsOf_18 : decode cX1_factsOf 18 = .ok (.iload_n 2, 1) := by decide +kernel
theorem dX1_factsOf_19 : decode cX1_factsOf 19 = .ok (.iload_n 3, 1) := by decide +kernel
theorem dX1_factsOf_20 : decode cX1_factsOf 20 = .ok (.invokevirtual 24, 3) := by decide +kernel
theorem dX1_factsOf_23 : decode cX1_factsOf 23 = .ok (.iastore, 1) := by decide +kernel
theorem dX1_factsOf_24 : decode cX1_factsOf 24 = .ok (.aload_n 0, 1) := by decide +kernel
theorem dX1_factsOf_25 : decode cX1_factsOf 25 = .ok (.getfield 17, 3) := by decide +kernel
theorem dX1_factsOf_28 : decode cX1_factsOf 28 = .ok (.iconst 2, 1) := by decide +kernel
theorem dX1_factsOf_29 : decode cX1_factsOf 29 = .ok (.aload_n 1, 1) := by decide +kernel
theorem dX1_factsOf_30 : decode cX1_factsOf 30 = .ok (.getfield 30, 3) := by decide +kernel
theorem dX1_factsOf_33 : decode cX1_factsOf 33 = .ok (.iload_n 2, 1) := by decide +kernel
theorem dX1_factsOf_34 : decode cX1_factsOf 34 = .ok (.iaload, 1) := by decide +kernel
theorem dX1_factsOf_35 : decode cX1_factsOf 35 = .ok (.iastore, 1) := by decide +kernel
theorem dX1_factsOf_36 : decode cX1_factsOf 36 = .ok (.aload_n 0, 1) := by decide +kernel
theorem dX1_factsOf_37 : decode cX1_factsOf 37 = .ok (.getfield 17, 3) := by decide +kernel
theorem dX1_factsOf_40 : decode cX1_factsOf 40 = .ok (.iconst 3, 1) := by decide +kernel
theorem dX1_factsOf_41 : decode cX1_factsOf 41 = .ok (.iload 5, 2) := by decide +kernel
theorem dX1_factsOf_43 : decode cX1_factsOf 43 = .ok (.iastore, 1) := by decide +kernel
theorem dX1_factsOf_44 : decode cX1_factsOf 44 = .ok (.aload_n 0, 1) := by decide +kernel
theorem dX1_factsOf_45 : decode cX1_factsOf 45 = .ok (.getfield 17, 3) := by decide +kernel
theorem dX1_factsOf_48 : decode cX1_factsOf 48 = .ok (.iconst 4, 1) := by decide +kernel
theorem dX1_factsOf_49 : decode cX1_factsOf 49 = .ok (.iload 4, 2) := by decide +kernel
theorem dX1_factsOf_51 : decode cX1_factsOf 51 = .ok (.iastore, 1) := by decide +kernel
theorem dX1_factsOf_52 : decode cX1_factsOf 52 = .ok (.aload_n 0, 1) := by decide +kernel
theorem dX1_factsOf_53 : decode cX1_factsOf 53 = .ok (.getfield 17, 3) := by decide +kernel
theorem dX1_factsOf_56 : decode cX1_factsOf 56 = .ok (.iconst 5, 1) := by decide +kernel
theorem dX1_factsOf_57 : decode cX1_factsOf 57 = .ok (.aload_n 1, 1) := by decide +kernel
theorem dX1_factsOf_58 : decode cX1_factsOf 58 = .ok (.getfield 33, 3) := by decide +kernel
theorem dX1_factsOf_61 : decode cX1_factsOf 61 = .ok (.iload_n 2, 1) := by decide +kernel
theorem dX1_factsOf_62 : decode cX1_factsOf 62 = .ok (.iaload, 1) := by decide +kernel
theorem dX1_factsOf_63 : decode cX1_factsOf 63 = .ok (.iload_n 3, 1) := by decide +kernel
theorem dX1_factsOf_64 : decode cX1_factsOf 64 = .ok (.if_icmp .ne 7, 3) := by decide +kernel
theorem dX1_factsOf_67 : decode cX1_factsOf 67 = .ok (.iconst 1, 1) := by decide +kernel
theorem dX1_factsOf_68 : decode cX1_factsOf 68 = .ok (.goto 4, 3) := by decide +kernel
theorem dX1_factsOf_71 : decode cX1_factsOf 71 = .ok (.iconst 0, 1) := by decide +kernel
theorem dX1_factsOf_72 : decode cX1_factsOf 72 = .ok (.iastore, 1) := by decide +kernel
theorem dX1_factsOf_73 : decode cX1_factsOf 73 = .ok (.aload_n 0, 1) := by decide +kernel
theorem dX1_factsOf_74 : decode cX1_factsOf 74 = .ok (.getfield 17, 3) := by decide +kernel
theorem dX1_factsOf_77 : decode cX1_factsOf 77 = .ok (.areturn, 1) := by decide +kernel
theorem dX1_forgive_0 : decode cX1_forgive 0 = .ok (.aload_n 1, 1) := by decide +kernel
theorem dX1_forgive_1 : decode cX1_forgive 1 = .ok (.iload_n 3, 1) := by decide +kernel
theorem dX1_forgive_2 : decode cX1_forgive 2 = .ok (.iload_n 2, 1) := by decide +kernel
theorem dX1_forgive_3 : decode cX1_forgive 3 = .ok (.invokevirtual 24, 3) := by decide +kernel
theorem dX1_forgive_6 : decode cX1_forgive 6 = .ok (.istore 6, 2) := by decide +kernel
theorem dX1_forgive_8 : decode cX1_forgive 8 = .ok (.aload_n 0, 1) := by decide +kernel
theorem dX1_forgive_9 : decode cX1_forgive 9 = .ok (.getfield 11, 3) := by decide +kernel
theorem dX1_forgive_12 : decode cX1_forgive 12 = .ok (.aload_n 1, 1) := by decide +kernel
theorem dX1_forgive_13 : decode cX1_forgive 13 = .ok (.getfield 36, 3) := by decide +kernel
theorem dX1_forgive_16 : decode cX1_forgive 16 = .ok (.aaload, 1) := by decide +kernel
theorem dX1_forgive_17 : decode cX1_forgive 17 = .ok (.iconst 0, 1) := by decide +kernel
theorem dX1_forgive_18 : decode cX1_forgive 18 = .ok (.aload_n 0, 1) := by decide +kernel
theorem dX1_forgive_19 : decode cX1_forgive 19 = .ok (.aload_n 1, 1) := by decide +kernel
theorem dX1_forgive_20 : decode cX1_forgive 20 = .ok (.iload_n 2, 1) := by decide +kernel
theorem dX1_forgive_21 : decode cX1_forgive 21 = .ok (.iload_n 3, 1) := by decide +kernel
theorem dX1_forgive_22 : decode cX1_forgive 22 = .ok (.iload 4, 2) := by decide +kernel
theorem dX1_forgive_24 : decode cX1_forgive 24 = .ok (.iload 5, 2) := by decide +kernel
theorem dX1_forgive_26 : decode cX1_forgive 26 = .ok (.invokevirtual 40, 3) := by decide +kernel
theorem dX1_forgive_29 : decode cX1_forgive 29 = .ok (.invokevirtual 44, 3) := by decide +kernel
theorem dX1_forgive_32 : decode cX1_forgive 32 = .ok (.istore 7, 2) := by decide +kernel
theorem dX1_forgive_34 : decode cX1_forgive 34 = .ok (.aload_n 1, 1) := by decide +kernel
theorem dX1_forgive_35 : decode cX1_forgive 35 = .ok (.getfield 48, 3) := by decide +kernel
theorem dX1_forgive_38 : decode cX1_forgive 38 = .ok (.iload_n 2, 1) := by decide +kernel
theorem dX1_forgive_39 : decode cX1_forgive 39 = .ok (.iaload, 1) := by decide +kernel
theorem dX1_forgive_40 : decode cX1_forgive 40 = .ok (.aload_n 1, 1) := by decide +kernel
theorem dX1_forgive_41 : decode cX1_forgive 41 = .ok (.getfield 30, 3) := by decide +kernel
theorem dX1_forgive_44 : decode cX1_forgive 44 = .ok (.iload_n 2, 1) := by decide +kernel
theorem dX1_forgive_45 : decode cX1_forgive 45 = .ok (.iaload, 1) := by decide +kernel
theorem dX1_forgive_46 : decode cX1_forgive 46 = .ok (.iload 6, 2) := by decide +kernel
theorem dX1_forgive_48 : decode cX1_forgive 48 = .ok (.iload 7, 2) := by decide +kernel
theorem dX1_forgive_50 : decode cX1_forgive 50 = .ok (.invokestatic 51, 3) := by decide +kernel
theorem dX1_forgive_53 : decode cX1_forgive 53 = .ok (.istore 8, 2) := by decide +kernel
theorem dX1_forgive_55 : decode cX1_forgive 55 = .ok (.aload_n 1, 1) := by decide +kernel
theorem dX1_forgive_56 : decode cX1_forgive 56 = .ok (.iload_n 3, 1) := by decide +kernel
theorem dX1_forgive_57 : decode cX1_forgive 57 = .ok (.iload_n 2, 1) := by decide +kernel
theorem dX1_forgive_58 : decode cX1_forgive 58 = .ok (.iload 6, 2) := by decide +kernel
theorem dX1_forgive_60 : decode cX1_forgive 60 = .ok (.iload 8, 2) := by decide +kernel
theorem dX1_forgive_62 : decode cX1_forgive 62 = .ok (.iconst 0, 1) := by decide +kernel
theorem dX1_forgive_63 : decode cX1_forgive 63 = .ok (.iload 6, 2) := by decide +kernel
theorem dX1_forgive_65 : decode cX1_forgive 65 = .ok (.invokestatic 57, 3) := by decide +kernel
theorem dX1_forgive_68 : decode cX1_forgive 68 = .ok (.isub, 1) := by decide +kernel
theorem dX1_forgive_69 : decode cX1_forgive 69 = .ok (.invokevirtual 61, 3) := by decide +kernel
theorem dX1_forgive_72 : decode cX1_forgive 72 = .ok (.return_, 1) := by decide +kernel
theorem dX1_lend_0 : decode cX1_lend 0 = .ok (.aload_n 1, 1) := by decide +kernel
theorem dX1_lend_1 : decode cX1_lend 1 = .ok (.iload_n 3, 1) := by decide +kernel
theorem dX1_lend_2 : decode cX1_lend 2 = .ok (.iload_n 2, 1) := by decide +kernel
theorem dX1_lend_3 : decode cX1_lend 3 = .ok (.invokevirtual 24, 3) := by decide +kernel
theorem dX1_lend_6 : decode cX1_lend 6 = .ok (.istore 6, 2) := by decide +kernel
theorem dX1_lend_8 : decode cX1_lend 8 = .ok (.aload_n 0, 1) := by decide +kernel
theorem dX1_lend_9 : decode cX1_lend 9 = .ok (.getfield 11, 3) := by decide +kernel
theorem dX1_lend_12 : decode cX1_lend 12 = .ok (.aload_n 1, 1) := by decide +kernel
theorem dX1_lend_13 : decode cX1_lend 13 = .ok (.getfield 36, 3) := by decide +kernel
theorem dX1_lend_16 : decode cX1_lend 16 = .ok (.aaload, 1) := by decide +kernel
theorem dX1_lend_17 : decode cX1_lend 17 = .ok (.iconst 1, 1) := by decide +kernel
theorem dX1_lend_18 : decode cX1_lend 18 = .ok (.aload_n 0, 1) := by decide +kernel
theorem dX1_lend_19 : decode cX1_lend 19 = .ok (.aload_n 1, 1) := by decide +kernel
theorem dX1_lend_20 : decode cX1_lend 20 = .ok (.iload_n 2, 1) := by decide +kernel
theorem dX1_lend_21 : decode cX1_lend 21 = .ok (.iload_n 3, 1) := by decide +kernel
theorem dX1_lend_22 : decode cX1_lend 22 = .ok (.iload 4, 2) := by decide +kernel
theorem dX1_lend_24 : decode cX1_lend 24 = .ok (.iload 5, 2) := by decide +kernel
theorem dX1_lend_26 : decode cX1_lend 26 = .ok (.invokevirtual 40, 3) := by decide +kernel
theorem dX1_lend_29 : decode cX1_lend 29 = .ok (.invokevirtual 44, 3) := by decide +kernel
theorem dX1_lend_32 : decode cX1_lend 32 = .ok (.istore 7, 2) := by decide +kernel
theorem dX1_lend_34 : decode cX1_lend 34 = .ok (.aload_n 1, 1) := by decide +kernel
theorem dX1_lend_35 : decode cX1_lend 35 = .ok (.getfield 48, 3) := by decide +kernel
theorem dX1_lend_38 : decode cX1_lend 38 = .ok (.iload_n 2, 1) := by decide +kernel
theorem dX1_lend_39 : decode cX1_lend 39 = .ok (.iaload, 1) := by decide +kernel
theorem dX1_lend_40 : decode cX1_lend 40 = .ok (.aload_n 1, 1) := by decide +kernel
theorem dX1_lend_41 : decode cX1_lend 41 = .ok (.getfield 30, 3) := by decide +kernel
theorem dX1_lend_44 : decode cX1_lend 44 = .ok (.iload_n 2, 1) := by decide +kernel
theorem dX1_lend_45 : decode cX1_lend 45 = .ok (.iaload, 1) := by decide +kernel
theorem dX1_lend_46 : decode cX1_lend 46 = .ok (.iload 7, 2) := by decide +kernel
theorem dX1_lend_48 : decode cX1_lend 48 = .ok (.invokestatic 65, 3) := by decide +kernel
theorem dX1_lend_51 : decode cX1_lend 51 = .ok (.istore 8, 2) := by decide +kernel
theorem dX1_lend_53 : decode cX1_lend 53 = .ok (.aload_n 1, 1) := by decide +kernel
theorem dX1_lend_54 : decode cX1_lend 54 = .ok (.iload_n 3, 1) := by decide +kernel
theorem dX1_lend_55 : decode cX1_lend 55 = .ok (.iload_n 2, 1) := by decide +kernel
theorem dX1_lend_56 : decode cX1_lend 56 = .ok (.iload 6, 2) := by decide +kernel
theorem dX1_lend_58 : decode cX1_lend 58 = .ok (.iload 8, 2) := by decide +kernel
theorem dX1_lend_60 : decode cX1_lend 60 = .ok (.iadd, 1) := by decide +kernel
theorem dX1_lend_61 : decode cX1_lend 61 = .ok (.iload 6, 2) := by decide +kernel
theorem dX1_lend_63 : decode cX1_lend 63 = .ok (.sipush 999, 3) := by decide +kernel
theorem dX1_lend_66 : decode cX1_lend 66 = .ok (.invokestatic 57, 3) := by decide +kernel
theorem dX1_lend_69 : decode cX1_lend 69 = .ok (.invokevirtual 61, 3) := by decide +kernel
theorem dX1_lend_72 : decode cX1_lend 72 = .ok (.return_, 1) := by decide +kernel
theorem dX1_meet_0 : decode cX1_meet 0 = .ok (.aload_n 0, 1) := by decide +kernel
theorem dX1_meet_1 : decode cX1_meet 1 = .ok (.aload_n 1, 1) := by decide +kernel
theorem dX1_meet_2 : decode cX1_meet 2 = .ok (.iload 4, 2) := by decide +kernel
theorem dX1_meet_4 : decode cX1_meet 4 = .ok (.iload_n 2, 1) := by decide +kernel
theorem dX1_meet_5 : decode cX1_meet 5 = .ok (.iload 5, 2) := by decide +kernel
theorem dX1_meet_7 : decode cX1_meet 7 = .ok (.iload 6, 2) := by decide +kernel
theorem dX1_meet_9 : decode cX1_meet 9 = .ok (.invokevirtual 68, 3) := by decide +kernel
theorem dX1_meet_12 : decode cX1_meet 12 = .ok (.aload_n 0, 1) := by decide +kernel
theorem dX1_meet_13 : decode cX1_meet 13 = .ok (.aload_n 1, 1) := by decide +kernel
theorem dX1_meet_14 : decode cX1_meet 14 = .ok (.iload_n 2, 1) := by decide +kernel
theorem dX1_meet_15 : decode cX1_meet 15 = .ok (.iload 4, 2) := by decide +kernel
theorem dX1_meet_17 : decode cX1_meet 17 = .ok (.iload_n 3, 1) := by decide +kernel
theorem dX1_meet_18 : decode cX1_meet 18 = .ok (.iload 6, 2) := by decide +kernel
theorem dX1_meet_20 : decode cX1_meet 20 = .ok (.invokevirtual 68, 3) := by decide +kernel
theorem dX1_meet_23 : decode cX1_meet 23 = .ok (.aload_n 0, 1) := by decide +kernel
theorem dX1_meet_24 : decode cX1_meet 24 = .ok (.aload_n 1, 1) := by decide +kernel
theorem dX1_meet_25 : decode cX1_meet 25 = .ok (.iload 4, 2) := by decide +kernel
theorem dX1_meet_27 : decode cX1_meet 27 = .ok (.iload_n 2, 1) := by decide +kernel
theorem dX1_meet_28 : decode cX1_meet 28 = .ok (.iload 5, 2) := by decide +kernel
theorem dX1_meet_30 : decode cX1_meet 30 = .ok (.iload 6, 2) := by decide +kernel
theorem dX1_meet_32 : decode cX1_meet 32 = .ok (.invokevirtual 72, 3) := by decide +kernel
theorem dX1_meet_35 : decode cX1_meet 35 = .ok (.aload_n 0, 1) := by decide +kernel
theorem dX1_meet_36 : decode cX1_meet 36 = .ok (.aload_n 1, 1) := by decide +kernel
theorem dX1_meet_37 : decode cX1_meet 37 = .ok (.iload_n 2, 1) := by decide +kernel
theorem dX1_meet_38 : decode cX1_meet 38 = .ok (.iload 4, 2) := by decide +kernel
theorem dX1_meet_40 : decode cX1_meet 40 = .ok (.iload_n 3, 1) := by decide +kernel
theorem dX1_meet_41 : decode cX1_meet 41 = .ok (.iload 6, 2) := by decide +kernel
theorem dX1_meet_43 : decode cX1_meet 43 = .ok (.invokevirtual 72, 3) := by decide +kernel
theorem dX1_meet_46 : decode cX1_meet 46 = .ok (.return_, 1) := by decide +kernel
theorem dX1_glad_0 : decode cX1_glad 0 = .ok (.aload_n 0, 1) := by decide +kernel
theorem dX1_glad_1 : decode cX1_glad 1 = .ok (.getfield 11, 3) := by decide +kernel
theorem dX1_glad_4 : decode cX1_glad 4 = .ok (.aload_n 1, 1) := by decide +kernel
theorem dX1_glad_5 : decode cX1_glad 5 = .ok (.getfield 36, 3) := by decide +kernel
theorem dX1_glad_8 : decode cX1_glad 8 = .ok (.aaload, 1) := by decide +kernel
theorem dX1_glad_9 : decode cX1_glad 9 = .ok (.iconst 2, 1) := by decide +kernel
theorem dX1_glad_10 : decode cX1_glad 10 = .ok (.aload_n 0, 1) := by decide +kernel
theorem dX1_glad_11 : decode cX1_glad 11 = .ok (.aload_n 1, 1) := by decide +kernel
theorem dX1_glad_12 : decode cX1_glad 12 = .ok (.iload_n 2, 1) := by decide +kernel
theorem dX1_glad_13 : decode cX1_glad 13 = .ok (.iload_n 3, 1) := by decide +kernel
theorem dX1_glad_14 : decode cX1_glad 14 = .ok (.iload 4, 2) := by decide +kernel
theorem dX1_glad_16 : decode cX1_glad 16 = .ok (.iload 5, 2) := by decide +kernel
theorem dX1_glad_18 : decode cX1_glad 18 = .ok (.invokevirtual 40, 3) := by decide +kernel
theorem dX1_glad_21 : decode cX1_glad 21 = .ok (.invokevirtual 44, 3) := by decide +kernel
theorem dX1_glad_24 : decode cX1_glad 24 = .ok (.istore 6, 2) := by decide +kernel
theorem dX1_glad_26 : decode cX1_glad 26 = .ok (.aload_n 1, 1) := by decide +kernel
theorem dX1_glad_27 : decode cX1_glad 27 = .ok (.getfield 48, 3) := by decide +kernel
theorem dX1_glad_30 : decode cX1_glad 30 = .ok (.iload_n 2, 1) := by decide +kernel
theorem dX1_glad_31 : decode cX1_glad 31 = .ok (.iaload, 1) := by decide +kernel
theorem dX1_glad_32 : decode cX1_glad 32 = .ok (.aload_n 1, 1) := by decide +kernel
theorem dX1_glad_33 : decode cX1_glad 33 = .ok (.getfield 30, 3) := by decide +kernel
theorem dX1_glad_36 : decode cX1_glad 36 = .ok (.iload_n 2, 1) := by decide +kernel
theorem dX1_glad_37 : decode cX1_glad 37 = .ok (.iaload, 1) := by decide +kernel
theorem dX1_glad_38 : decode cX1_glad 38 = .ok (.iload 6, 2) := by decide +kernel
theorem dX1_glad_40 : decode cX1_glad 40 = .ok (.aload_n 1, 1) := by decide +kernel
theorem dX1_glad_41 : decode cX1_glad 41 = .ok (.getfield 33, 3) := by decide +kernel
theorem dX1_glad_44 : decode cX1_glad 44 = .ok (.iload_n 2, 1) := by decide +kernel
theorem dX1_glad_45 : decode cX1_glad 45 = .ok (.iaload, 1) := by decide +kernel
theorem dX1_glad_46 : decode cX1_glad 46 = .ok (.iload_n 3, 1) := by decide +kernel
theorem dX1_glad_47 : decode cX1_glad 47 = .ok (.if_icmp .ne 7, 3) := by decide +kernel
theorem dX1_glad_50 : decode cX1_glad 50 = .ok (.iconst 1, 1) := by decide +kernel
theorem dX1_glad_51 : decode cX1_glad 51 = .ok (.goto 4, 3) := by decide +kernel
theorem dX1_glad_54 : decode cX1_glad 54 = .ok (.iconst 0, 1) := by decide +kernel
theorem dX1_glad_55 : decode cX1_glad 55 = .ok (.invokestatic 75, 3) := by decide +kernel
theorem dX1_glad_58 : decode cX1_glad 58 = .ok (.ireturn, 1) := by decide +kernel
theorem dX1_joyOfPair_0 : decode cX1_joyOfPair 0 = .ok (.aload_n 0, 1) := by decide +kernel
theorem dX1_joyOfPair_1 : decode cX1_joyOfPair 1 = .ok (.aload_n 1, 1) := by decide +kernel
theorem dX1_joyOfPair_2 : decode cX1_joyOfPair 2 = .ok (.iload_n 2, 1) := by decide +kernel
theorem dX1_joyOfPair_3 : decode cX1_joyOfPair 3 = .ok (.iload 4, 2) := by decide +kernel
theorem dX1_joyOfPair_5 : decode cX1_joyOfPair 5 = .ok (.iload_n 3, 1) := by decide +kernel
theorem dX1_joyOfPair_6 : decode cX1_joyOfPair 6 = .ok (.iload 6, 2) := by decide +kernel
theorem dX1_joyOfPair_8 : decode cX1_joyOfPair 8 = .ok (.invokevirtual 79, 3) := by decide +kernel
theorem dX1_joyOfPair_11 : decode cX1_joyOfPair 11 = .ok (.aload_n 0, 1) := by decide +kernel
theorem dX1_joyOfPair_12 : decode cX1_joyOfPair 12 = .ok (.aload_n 1, 1) := by decide +kernel
theorem dX1_joyOfPair_13 : decode cX1_joyOfPair 13 = .ok (.iload 4, 2) := by decide +kernel
theorem dX1_joyOfPair_15 : decode cX1_joyOfPair 15 = .ok (.iload_n 2, 1) := by decide +kernel
theorem dX1_joyOfPair_16 : decode cX1_joyOfPair 16 = .ok (.iload 5, 2) := by decide +kernel
theorem dX1_joyOfPair_18 : decode cX1_joyOfPair 18 = .ok (.iload 6, 2) := by decide +kernel
theorem dX1_joyOfPair_20 : decode cX1_joyOfPair 20 = .ok (.invokevirtual 79, 3) := by decide +kernel
theorem dX1_joyOfPair_23 : decode cX1_joyOfPair 23 = .ok (.iadd, 1) := by decide +kernel
theorem dX1_joyOfPair_24 : decode cX1_joyOfPair 24 = .ok (.ireturn, 1) := by decide +kernel
theorem dX1_clearedByPair_0 : decode cX1_clearedByPair 0 = .ok (.aload_n 1, 1) := by decide +kernel
theorem dX1_clearedByPair_1 : decode cX1_clearedByPair 1 = .ok (.iload_n 2, 1) := by decide +kernel
theorem dX1_clearedByPair_2 : decode cX1_clearedByPair 2 = .ok (.iload 4, 2) := by decide +kernel
theorem dX1_clearedByPair_4 : decode cX1_clearedByPair 4 = .ok (.invokevirtual 24, 3) := by decide +kernel
theorem dX1_clearedByPair_7 : decode cX1_clearedByPair 7 = .ok (.istore 7, 2) := by decide +kernel
theorem dX1_clearedByPair_9 : decode cX1_clearedByPair 9 = .ok (.aload_n 1, 1) := by decide +kernel
theorem dX1_clearedByPair_10 : decode cX1_clearedByPair 10 = .ok (.iload 4, 2) := by decide +kernel
theorem dX1_clearedByPair_12 : decode cX1_clearedByPair 12 = .ok (.iload_n 2, 1) := by decide +kernel
theorem dX1_clearedByPair_13 : decode cX1_clearedByPair 13 = .ok (.invokevirtual 24, 3) := by decide +kernel
theorem dX1_clearedByPair_16 : decode cX1_clearedByPair 16 = .ok (.istore 8, 2) := by decide +kernel
theorem dX1_clearedByPair_18 : decode cX1_clearedByPair 18 = .ok (.aload_n 0, 1) := by decide +kernel
theorem dX1_clearedByPair_19 : decode cX1_clearedByPair 19 = .ok (.aload_n 1, 1) := by decide +kernel
theorem dX1_clearedByPair_20 : decode cX1_clearedByPair 20 = .ok (.iload_n 2, 1) := by decide +kernel
theorem dX1_clearedByPair_21 : decode cX1_clearedByPair 21 = .ok (.iload_n 3, 1) := by decide +kernel
theorem dX1_clearedByPair_22 : decode cX1_clearedByPair 22 = .ok (.iload 4, 2) := by decide +kernel
theorem dX1_clearedByPair_24 : decode cX1_clearedByPair 24 = .ok (.iload 5, 2) := by decide +kernel
theorem dX1_clearedByPair_26 : decode cX1_clearedByPair 26 = .ok (.iload 6, 2) := by decide +kernel
theorem dX1_clearedByPair_28 : decode cX1_clearedByPair 28 = .ok (.invokevirtual 82, 3) := by decide +kernel
theorem dX1_clearedByPair_31 : decode cX1_clearedByPair 31 = .ok (.aload_n 1, 1) := by decide +kernel
theorem dX1_clearedByPair_32 : decode cX1_clearedByPair 32 = .ok (.iload_n 2, 1) := by decide +kernel
theorem dX1_clearedByPair_33 : decode cX1_clearedByPair 33 = .ok (.iload 4, 2) := by decide +kernel
theorem dX1_clearedByPair_35 : decode cX1_clearedByPair 35 = .ok (.invokevirtual 24, 3) := by decide +kernel
theorem dX1_clearedByPair_38 : decode cX1_clearedByPair 38 = .ok (.aload_n 1, 1) := by decide +kernel
theorem dX1_clearedByPair_39 : decode cX1_clearedByPair 39 = .ok (.iload 4, 2) := by decide +kernel
theorem dX1_clearedByPair_41 : decode cX1_clearedByPair 41 = .ok (.iload_n 2, 1) := by decide +kernel
theorem dX1_clearedByPair_42 : decode cX1_clearedByPair 42 = .ok (.invokevirtual 24, 3) := by decide +kernel
theorem dX1_clearedByPair_45 : decode cX1_clearedByPair 45 = .ok (.iadd, 1) := by decide +kernel
theorem dX1_clearedByPair_46 : decode cX1_clearedByPair 46 = .ok (.istore 9, 2) := by decide +kernel
theorem dX1_clearedByPair_48 : decode cX1_clearedByPair 48 = .ok (.aload_n 1, 1) := by decide +kernel
theorem dX1_clearedByPair_49 : decode cX1_clearedByPair 49 = .ok (.iload_n 2, 1) := by decide +kernel
theorem dX1_clearedByPair_50 : decode cX1_clearedByPair 50 = .ok (.iload 4, 2) := by decide +kernel
theorem dX1_clearedByPair_52 : decode cX1_clearedByPair 52 = .ok (.iload 7, 2) := by decide +kernel
theorem dX1_clearedByPair_54 : decode cX1_clearedByPair 54 = .ok (.invokevirtual 61, 3) := by decide +kernel
theorem dX1_clearedByPair_57 : decode cX1_clearedByPair 57 = .ok (.aload_n 1, 1) := by decide +kernel
theorem dX1_clearedByPair_58 : decode cX1_clearedByPair 58 = .ok (.iload 4, 2) := by decide +kernel
theorem dX1_clearedByPair_60 : decode cX1_clearedByPair 60 = .ok (.iload_n 2, 1) := by decide +kernel
theorem dX1_clearedByPair_61 : decode cX1_clearedByPair 61 = .ok (.iload 8, 2) := by decide +kernel
theorem dX1_clearedByPair_63 : decode cX1_clearedByPair 63 = .ok (.invokevirtual 61, 3) := by decide +kernel
theorem dX1_clearedByPair_66 : decode cX1_clearedByPair 66 = .ok (.iload 7, 2) := by decide +kernel
theorem dX1_clearedByPair_68 : decode cX1_clearedByPair 68 = .ok (.iload 8, 2) := by decide +kernel
theorem dX1_clearedByPair_70 : decode cX1_clearedByPair 70 = .ok (.iadd, 1) := by decide +kernel
theorem dX1_clearedByPair_71 : decode cX1_clearedByPair 71 = .ok (.iload 9, 2) := by decide +kernel
theorem dX1_clearedByPair_73 : decode cX1_clearedByPair 73 = .ok (.isub, 1) := by decide +kernel
theorem dX1_clearedByPair_74 : decode cX1_clearedByPair 74 = .ok (.ireturn, 1) := by decide +kernel
theorem dX2_init_0 : decode cX2_init 0 = .ok (.aload_n 0, 1) := by decide +kernel
theorem dX2_init_1 : decode cX2_init 1 = .ok (.invokespecial 3, 3) := by decide +kernel
theorem dX2_init_4 : decode cX2_init 4 = .ok (.aload_n 0, 1) := by decide +kernel
theorem dX2_init_5 : decode cX2_init 5 = .ok (.iconst 1, 1) := by decide +kernel
theorem dX2_init_6 : decode cX2_init 6 = .ok (.putfield 9, 3) := by decide +kernel
theorem dX2_init_9 : decode cX2_init 9 = .ok (.aload_n 0, 1) := by decide +kernel
theorem dX2_init_10 : decode cX2_init 10 = .ok (.iconst 0, 1) := by decide +kernel
theorem dX2_init_11 : decode cX2_init 11 = .ok (.putfield 15, 3) := by decide +kernel
theorem dX2_init_14 : decode cX2_init 14 = .ok (.aload_n 0, 1) := by decide +kernel
theorem dX2_init_15 : decode cX2_init 15 = .ok (.iconst 0, 1) := by decide +kernel
theorem dX2_init_16 : decode cX2_init 16 = .ok (.putfield 18, 3) := by decide +kernel
theorem dX2_init_19 : decode cX2_init 19 = .ok (.aload_n 0, 1) := by decide +kernel
theorem dX2_init_20 : decode cX2_init 20 = .ok (.iconst 0, 1) := by decide +kernel
theorem dX2_init_21 : decode cX2_init 21 = .ok (.putfield 21, 3) := by decide +kernel
theorem dX2_init_24 : decode cX2_init 24 = .ok (.aload_n 0, 1) := by decide +kernel
theorem dX2_init_25 : decode cX2_init 25 = .ok (.bipush 7, 2) := by decide +kernel
theorem dX2_init_27 : decode cX2_init 27 = .ok (.newarray .int, 2) := by decide +kernel
theorem dX2_init_29 : decode cX2_init 29 = .ok (.putfield 24, 3) := by decide +kernel
theorem dX2_init_32 : decode cX2_init 32 = .ok (.aload_n 0, 1) := by decide +kernel
theorem dX2_init_33 : decode cX2_init 33 = .ok (.bipush 7, 2) := by decide +kernel
theorem dX2_init_35 : decode cX2_init 35 = .ok (.newarray .int, 2) := by decide +kernel
theorem dX2_init_37 : decode cX2_init 37 = .ok (.putfield 28, 3) := by decide +kernel
theorem dX2_init_40 : decode cX2_init 40 = .ok (.aload_n 0, 1) := by decide +kernel
theorem dX2_init_41 : decode cX2_init 41 = .ok (.bipush 7, 2) := by decide +kernel
theorem dX2_init_43 : decode cX2_init 43 = .ok (.newarray .int, 2) := by decide +kernel
theorem dX2_init_45 : decode cX2_init 45 = .ok (.putfield 31, 3) := by decide +kernel
theorem dX2_init_48 : decode cX2_init 48 = .ok (.aload_n 0, 1) := by decide +kernel
theorem dX2_init_49 : decode cX2_init 49 = .ok (.bipush 49, 2) := by decide +kernel
theorem dX2_init_51 : decode cX2_init 51 = .ok (.newarray .int, 2) := by decide +kernel
theorem dX2_init_53 : decode cX2_init 53 = .ok (.putfield 34, 3) := by decide +kernel
theorem dX2_init_56 : decode cX2_init 56 = .ok (.return_, 1) := by decide +kernel
theorem dX2_become_0 : decode cX2_become 0 = .ok (.aload_n 0, 1) := by decide +kernel
theorem dX2_become_1 : decode cX2_become 1 = .ok (.aload_n 1, 1) := by decide +kernel
theorem dX2_become_2 : decode cX2_become 2 = .ok (.getfield 9, 3) := by decide +kernel
theorem dX2_become_5 : decode cX2_become 5 = .ok (.putfield 9, 3) := by decide +kernel
theorem dX2_become_8 : decode cX2_become 8 = .ok (.aload_n 0, 1) := by decide +kernel
theorem dX2_become_9 : decode cX2_become 9 = .ok (.aload_n 1, 1) := by decide +kernel
theorem dX2_become_10 : decode cX2_become 10 = .ok (.getfield 15, 3) := by decide +kernel
theorem dX2_become_13 : decode cX2_become 13 = .ok (.putfield 15, 3) := by decide +kernel
theorem dX2_become_16 : decode cX2_become 16 = .ok (.aload_n 0, 1) := by decide +kernel
theorem dX2_become_17 : decode cX2_become 17 = .ok (.aload_n 1, 1) := by decide +kernel
theorem dX2_become_18 : decode cX2_become 18 = .ok (.getfield 18, 3) := by decide +kernel
theorem dX2_become_21 : decode cX2_become 21 = .ok (.putfield 18, 3) := by decide +kernel
theorem dX2_become_24 : decode cX2_become 24 = .ok (.aload_n 0, 1) := by decide +kernel
theorem dX2_become_25 : decode cX2_become 25 = .ok (.aload_n 1, 1) := by decide +kernel
theorem dX2_become_26 : decode cX2_become 26 = .ok (.getfield 21, 3) := by decide +kernel
theorem dX2_become_29 : decode cX2_become 29 = .ok (.putfield 21, 3) := by decide +kernel
theorem dX2_become_32 : decode cX2_become 32 = .ok (.aload_n 1, 1) := by decide +kernel
theorem dX2_become_33 : decode cX2_become 33 = .ok (.getfield 24, 3) := by decide +kernel
theorem dX2_become_36 : decode cX2_become 36 = .ok (.iconst 0, 1) := by decide +kernel
theorem dX2_become_37 : decode cX2_become 37 = .ok (.aload_n 0, 1) := by decide +kernel
theorem dX2_become_38 : decode cX2_become 38 = .ok (.getfield 24, 3) := by decide +kernel
theorem dX2_become_41 : decode cX2_become 41 = .ok (.iconst 0, 1) := by decide +kernel
theorem dX2_become_42 : decode cX2_become 42 = .ok (.bipush 7, 2) := by decide +kernel
theorem dX2_become_44 : decode cX2_become 44 = .ok (.invokestatic 37, 3) := by decide +kernel
theorem dX2_become_47 : decode cX2_become 47 = .ok (.aload_n 1, 1) := by decide +kernel
theorem dX2_become_48 : decode cX2_become 48 = .ok (.getfield 28, 3) := by decide +kernel
theorem dX2_become_51 : decode cX2_become 51 = .ok (.iconst 0, 1) := by decide +kernel
theorem dX2_become_52 : decode cX2_become 52 = .ok (.aload_n 0, 1) := by decide +kernel
theorem dX2_become_53 : decode cX2_become 53 = .ok (.getfield 28, 3) := by decide +kernel
theorem dX2_become_56 : decode cX2_become 56 = .ok (.iconst 0, 1) := by decide +kernel
theorem dX2_become_57 : decode cX2_become 57 = .ok (.bipush 7, 2) := by decide +kernel
theorem dX2_become_59 : decode cX2_become 59 = .ok (.invokestatic 37, 3) := by decide +kernel
theorem dX2_become_62 : decode cX2_become 62 = .ok (.aload_n 1, 1) := by decide +kernel
theorem dX2_become_63 : decode cX2_become 63 = .ok (.getfield 31, 3) := by decide +kernel
theorem dX2_become_66 : decode cX2_become 66 = .ok (.iconst 0, 1) := by decide +kernel
theorem dX2_become_67 : decode cX2_become 67 = .ok (.aload_n 0, 1) := by decide +kernel
theorem dX2_become_68 : decode cX2_become 68 = .ok (.getfield 31, 3) := by decide +kernel
theorem dX2_become_71 : decode cX2_become 71 = .ok (.iconst 0, 1) := by decide +kernel
theorem dX2_become_72 : decode cX2_become 72 = .ok (.bipush 7, 2) := by decide +kernel
theorem dX2_become_74 : decode cX2_become 74 = .ok (.invokestatic 37, 3) := by decide +kernel
theorem dX2_become_77 : decode cX2_become 77 = .ok (.aload_n 1, 1) := by decide +kernel
theorem dX2_become_78 : decode cX2_become 78 = .ok (.getfield 34, 3) := by decide +kernel
theorem dX2_become_81 : decode cX2_become 81 = .ok (.iconst 0, 1) := by decide +kernel
theorem dX2_become_82 : decode cX2_become 82 = .ok (.aload_n 0, 1) := by decide +kernel
theorem dX2_become_83 : decode cX2_become 83 = .ok (.getfield 34, 3) := by decide +kernel
theorem dX2_become_86 : decode cX2_become 86 = .ok (.iconst 0, 1) := by decide +kernel
theorem dX2_become_87 : decode cX2_become 87 = .ok (.aload_n 0, 1) := by decide +kernel
theorem dX2_become_88 : decode cX2_become 88 = .ok (.getfield 34, 3) := by decide +kernel
theorem dX2_become_91 : decode cX2_become 91 = .ok (.arraylength, 1) := by decide +kernel
theorem dX2_become_92 : decode cX2_become 92 = .ok (.invokestatic 37, 3) := by decide +kernel
theorem dX2_become_95 : decode cX2_become 95 = .ok (.return_, 1) := by decide +kernel
theorem dX2_welcome_0 : decode cX2_welcome 0 = .ok (.aload_n 0, 1) := by decide +kernel
theorem dX2_welcome_1 : decode cX2_welcome 1 = .ok (.getfield 21, 3) := by decide +kernel
theorem dX2_welcome_4 : decode cX2_welcome 4 = .ok (.istore_n 3, 1) := by decide +kernel
theorem dX2_welcome_5 : decode cX2_welcome 5 = .ok (.iload_n 3, 1) := by decide +kernel
theorem dX2_welcome_6 : decode cX2_welcome 6 = .ok (.bipush 7, 2) := by decide +kernel
theorem dX2_welcome_8 : decode cX2_welcome 8 = .ok (.if_icmp .lt 6, 3) := by decide +kernel
theorem dX2_welcome_11 : decode cX2_welcome 11 = .ok (.bipush (-4), 2) := by decide +kernel
theorem dX2_welcome_13 : decode cX2_welcome 13 = .ok (.ireturn, 1) := by decide +kernel
theorem dX2_welcome_14 : decode cX2_welcome 14 = .ok (.aload_n 0, 1) := by decide +kernel
theorem dX2_welcome_15 : decode cX2_welcome 15 = .ok (.dup, 1) := by decide +kernel
theorem dX2_welcome_16 : decode cX2_welcome 16 = .ok (.getfield 21, 3) := by decide +kernel
theorem dX2_welcome_19 : decode cX2_welcome 19 = .ok (.iconst 1, 1) := by decide +kernel
theorem dX2_welcome_20 : decode cX2_welcome 20 = .ok (.iadd, 1) := by decide +kernel
theorem dX2_welcome_21 : decode cX2_welcome 21 = .ok (.putfield 21, 3) := by decide +kernel
theorem dX2_welcome_24 : decode cX2_welcome 24 = .ok (.aload_n 0, 1) := by decide +kernel
theorem dX2_welcome_25 : decode cX2_welcome 25 = .ok (.getfield 24, 3) := by decide +kernel
theorem dX2_welcome_28 : decode cX2_welcome 28 = .ok (.iload_n 3, 1) := by decide +kernel
theorem dX2_welcome_29 : decode cX2_welcome 29 = .ok (.iload_n 1, 1) := by decide +kernel
theorem dX2_welcome_30 : decode cX2_welcome 30 = .ok (.iastore, 1) := by decide +kernel
theorem dX2_welcome_31 : decode cX2_welcome 31 = .ok (.aload_n 0, 1) := by decide +kernel
theorem dX2_welcome_32 : decode cX2_welcome 32 = .ok (.getfield 28, 3) := by decide +kernel
theorem dX2_welcome_35 : decode cX2_welcome 35 = .ok (.iload_n 3, 1) := by decide +kernel
theorem dX2_welcome_36 : decode cX2_welcome 36 = .ok (.iload_n 2, 1) := by decide +kernel
theorem dX2_welcome_37 : decode cX2_welcome 37 = .ok (.iastore, 1) := by decide +kernel
theorem dX2_welcome_38 : decode cX2_welcome 38 = .ok (.aload_n 0, 1) := by decide +kernel
theorem dX2_welcome_39 : decode cX2_welcome 39 = .ok (.getfield 31, 3) := by decide +kernel
theorem dX2_welcome_42 : decode cX2_welcome 42 = .ok (.iload_n 3, 1) := by decide +kernel
theorem dX2_welcome_43 : decode cX2_welcome 43 = .ok (.iconst (-1), 1) := by decide +kernel
theorem dX2_welcome_44 : decode cX2_welcome 44 = .ok (.iastore, 1) := by decide +kernel
theorem dX2_welcome_45 : decode cX2_welcome 45 = .ok (.iconst 0, 1) := by decide +kernel
theorem dX2_welcome_46 : decode cX2_welcome 46 = .ok (.istore 4, 2) := by decide +kernel
theorem dX2_welcome_48 : decode cX2_welcome 48 = .ok (.iload 4, 2) := by decide +kernel
theorem dX2_welcome_50 : decode cX2_welcome 50 = .ok (.aload_n 0, 1) := by decide +kernel
theorem dX2_welcome_51 : decode cX2_welcome 51 = .ok (.getfield 21, 3) := by decide +kernel
theorem dX2_welcome_54 : decode cX2_welcome 54 = .ok (.if_icmp .ge 25, 3) := by decide +kernel
theorem dX2_welcome_57 : decode cX2_welcome 57 = .ok (.aload_n 0, 1) := by decide +kernel
theorem dX2_welcome_58 : decode cX2_welcome 58 = .ok (.iload_n 3, 1) := by decide +kernel
theorem dX2_welcome_59 : decode cX2_welcome 59 = .ok (.iload 4, 2) := by decide +kernel
theorem dX2_welcome_61 : decode cX2_welcome 61 = .ok (.iconst 0, 1) := by decide +kernel
theorem dX2_welcome_62 : decode cX2_welcome 62 = .ok (.invokevirtual 43, 3) := by decide +kernel
theorem dX2_welcome_65 : decode cX2_welcome 65 = .ok (.aload_n 0, 1) := by decide +kernel
theorem dX2_welcome_66 : decode cX2_welcome 66 = .ok (.iload 4, 2) := by decide +kernel
theorem dX2_welcome_68 : decode cX2_welcome 68 = .ok (.iload_n 3, 1) := by decide +kernel
theorem dX2_welcome_69 : decode cX2_welcome 69 = .ok (.iconst 0, 1) := by decide +kernel
theorem dX2_welcome_70 : decode cX2_welcome 70 = .ok (.invokevirtual 43, 3) := by decide +kernel
theorem dX2_welcome_73 : decode cX2_welcome 73 = .ok (.iinc 4 1, 3) := by decide +kernel
theorem dX2_welcome_76 : decode cX2_welcome 76 = .ok (.goto (-28), 3) := by decide +kernel
theorem dX2_welcome_79 : decode cX2_welcome 79 = .ok (.iload_n 3, 1) := by decide +kernel
theorem dX2_welcome_80 : decode cX2_welcome 80 = .ok (.ireturn, 1) := by decide +kernel
theorem dX2_has_0 : decode cX2_has 0 = .ok (.iload_n 1, 1) := by decide +kernel
theorem dX2_has_1 : decode cX2_has 1 = .ok (.ifCond .lt 15, 3) := by decide +kernel
theorem dX2_has_4 : decode cX2_has 4 = .ok (.iload_n 1, 1) := by decide +kernel
theorem dX2_has_5 : decode cX2_has 5 = .ok (.aload_n 0, 1) := by decide +kernel
theorem dX2_has_6 : decode cX2_has 6 = .ok (.getfield 21, 3) := by decide +kernel
theorem dX2_has_9 : decode cX2_has 9 = .ok (.if_icmp .ge 7, 3) := by decide +kernel
theorem dX2_has_12 : decode cX2_has 12 = .ok (.iconst 1, 1) := by decide +kernel
theorem dX2_has_13 : decode cX2_has 13 = .ok (.goto 4, 3) := by decide +kernel
theorem dX2_has_16 : decode cX2_has 16 = .ok (.iconst 0, 1) := by decide +kernel
theorem dX2_has_17 : decode cX2_has 17 = .ok (.ireturn, 1) := by decide +kernel
theorem dX2_hasBoth_0 : decode cX2_hasBoth 0 = .ok (.aload_n 0, 1) := by decide +kernel
theorem dX2_hasBoth_1 : decode cX2_hasBoth 1 = .ok (.iload_n 1, 1) := by decide +kernel
theorem dX2_hasBoth_2 : decode cX2_hasBoth 2 = .ok (.invokevirtual 47, 3) := by decide +kernel
theorem dX2_hasBoth_5 : decode cX2_hasBoth 5 = .ok (.ifCond .eq 20, 3) := by decide +kernel
theorem dX2_hasBoth_8 : decode cX2_hasBoth 8 = .ok (.aload_n 0, 1) := by decide +kernel
theorem dX2_hasBoth_9 : decode cX2_hasBoth 9 = .ok (.iload_n 2, 1) := by decide +kernel
theorem dX2_hasBoth_10 : decode cX2_hasBoth 10 = .ok (.invokevirtual 47, 3) := by decide +kernel
theorem dX2_hasBoth_13 : decode cX2_hasBoth 13 = .ok (.ifCond .eq 12, 3) := by decide +kernel
theorem dX2_hasBoth_16 : decode cX2_hasBoth 16 = .ok (.iload_n 1, 1) := by decide +kernel
theorem dX2_hasBoth_17 : decode cX2_hasBoth 17 = .ok (.iload_n 2, 1) := by decide +kernel
theorem dX2_hasBoth_18 : decode cX2_hasBoth 18 = .ok (.if_icmp .eq 7, 3) := by decide +kernel
theorem dX2_hasBoth_21 : decode cX2_hasBoth 21 = .ok (.iconst 1, 1) := by decide +kernel
theorem dX2_hasBoth_22 : decode cX2_hasBoth 22 = .ok (.goto 4, 3) := by decide +kernel
theorem dX2_hasBoth_25 : decode cX2_hasBoth 25 = .ok (.iconst 0, 1) := by decide +kernel
theorem dX2_hasBoth_26 : decode cX2_hasBoth 26 = .ok (.ireturn, 1) := by decide +kernel
theorem dX2_everybody_0 : decode cX2_everybody 0 = .ok (.iconst 1, 1) := by decide +kernel
theorem dX2_everybody_1 : decode cX2_everybody 1 = .ok (.aload_n 0, 1) := by decide +kernel
theorem dX2_everybody_2 : decode cX2_everybody 2 = .ok (.getfield 21, 3) := by decide +kernel
theorem dX2_everybody_5 : decode cX2_everybody 5 = .ok (.ishl, 1) := by decide +kernel
theorem dX2_everybody_6 : decode cX2_everybody 6 = .ok (.iconst 1, 1) := by decide +kernel
theorem dX2_everybody_7 : decode cX2_everybody 7 = .ok (.isub, 1) := by decide +kernel
theorem dX2_everybody_8 : decode cX2_everybody 8 = .ok (.ireturn, 1) := by decide +kernel
theorem dX2_isIn_0 : decode cX2_isIn 0 = .ok (.iload_n 0, 1) := by decide +kernel
theorem dX2_isIn_1 : decode cX2_isIn 1 = .ok (.iload_n 1, 1) := by decide +kernel
theorem dX2_isIn_2 : decode cX2_isIn 2 = .ok (.ishr, 1) := by decide +kernel
theorem dX2_isIn_3 : decode cX2_isIn 3 = .ok (.iconst 1, 1) := by decide +kernel
theorem dX2_isIn_4 : decode cX2_isIn 4 = .ok (.iand, 1) := by decide +kernel
theorem dX2_isIn_5 : decode cX2_isIn 5 = .ok (.iconst 1, 1) := by decide +kernel
theorem dX2_isIn_6 : decode cX2_isIn 6 = .ok (.if_icmp .ne 7, 3) := by decide +kernel
theorem dX2_isIn_9 : decode cX2_isIn 9 = .ok (.iconst 1, 1) := by decide +kernel
theorem dX2_isIn_10 : decode cX2_isIn 10 = .ok (.goto 4, 3) := by decide +kernel
theorem dX2_isIn_13 : decode cX2_isIn 13 = .ok (.iconst 0, 1) := by decide +kernel
theorem dX2_isIn_14 : decode cX2_isIn 14 = .ok (.ireturn, 1) := by decide +kernel
theorem dX2_debt_0 : decode cX2_debt 0 = .ok (.aload_n 0, 1) := by decide +kernel
theorem dX2_debt_1 : decode cX2_debt 1 = .ok (.getfield 34, 3) := by decide +kernel
theorem dX2_debt_4 : decode cX2_debt 4 = .ok (.iload_n 1, 1) := by decide +kernel
theorem dX2_debt_5 : decode cX2_debt 5 = .ok (.bipush 7, 2) := by decide +kernel
theorem dX2_debt_7 : decode cX2_debt 7 = .ok (.imul, 1) := by decide +kernel
theorem dX2_debt_8 : decode cX2_debt 8 = .ok (.iload_n 2, 1) := by decide +kernel
theorem dX2_debt_9 : decode cX2_debt 9 = .ok (.iadd, 1) := by decide +kernel
theorem dX2_debt_10 : decode cX2_debt 10 = .ok (.iaload, 1) := by decide +kernel
theorem dX2_debt_11 : decode cX2_debt 11 = .ok (.ireturn, 1) := by decide +kernel
theorem dX2_setDebt_0 : decode cX2_setDebt 0 = .ok (.aload_n 0, 1) := by decide +kernel
theorem dX2_setDebt_1 : decode cX2_setDebt 1 = .ok (.getfield 34, 3) := by decide +kernel
theorem dX2_setDebt_4 : decode cX2_setDebt 4 = .ok (.iload_n 1, 1) := by decide +kernel
theorem dX2_setDebt_5 : decode cX2_setDebt 5 = .ok (.bipush 7, 2) := by decide +kernel
theorem dX2_setDebt_7 : decode cX2_setDebt 7 = .ok (.imul, 1) := by decide +kernel
theorem dX2_setDebt_8 : decode cX2_setDebt 8 = .ok (.iload_n 2, 1) := by decide +kernel
theorem dX2_setDebt_9 : decode cX2_setDebt 9 = .ok (.iadd, 1) := by decide +kernel
theorem dX2_setDebt_10 : decode cX2_setDebt 10 = .ok (.iload_n 3, 1) := by decide +kernel
theorem dX2_setDebt_11 : decode cX2_setDebt 11 = .ok (.iastore, 1) := by decide +kernel
theorem dX2_setDebt_12 : decode cX2_setDebt 12 = .ok (.return_, 1) := by decide +kernel
theorem dX2_creditor_0 : decode cX2_creditor 0 = .ok (.iconst (-1), 1) := by decide +kernel
theorem dX2_creditor_1 : decode cX2_creditor 1 = .ok (.istore_n 3, 1) := by decide +kernel
theorem dX2_creditor_2 : decode cX2_creditor 2 = .ok (.iconst 0, 1) := by decide +kernel
theorem dX2_creditor_3 : decode cX2_creditor 3 = .ok (.istore 4, 2) := by decide +kernel
theorem dX2_creditor_5 : decode cX2_creditor 5 = .ok (.iconst 0, 1) := by decide +kernel
theorem dX2_creditor_6 : decode cX2_creditor 6 = .ok (.istore 5, 2) := by decide +kernel
theorem dX2_creditor_8 : decode cX2_creditor 8 = .ok (.iload 5, 2) := by decide +kernel
theorem dX2_creditor_10 : decode cX2_creditor 10 = .ok (.aload_n 0, 1) := by decide +kernel
theorem dX2_creditor_11 : decode cX2_creditor 11 = .ok (.getfield 21, 3) := by decide +kernel
theorem dX2_creditor_14 : decode cX2_creditor 14 = .ok (.if_icmp .ge 42, 3) := by decide +kernel
theorem dX2_creditor_17 : decode cX2_creditor 17 = .ok (.iload_n 2, 1) := by decide +kernel
theorem dX2_creditor_18 : decode cX2_creditor 18 = .ok (.iload 5, 2) := by decide +kernel
theorem dX2_creditor_20 : decode cX2_creditor 20 = .ok (.invokestatic 51, 3) := by decide +kernel
theorem dX2_creditor_23 : decode cX2_creditor 23 = .ok (.ifCond .eq 27, 3) := by decide +kernel
theorem dX2_creditor_26 : decode cX2_creditor 26 = .ok (.aload_n 0, 1) := by decide +kernel
theorem dX2_creditor_27 : decode cX2_creditor 27 = .ok (.iload_n 1, 1) := by decide +kernel
theorem dX2_creditor_28 : decode cX2_creditor 28 = .ok (.iload 5, 2) := by decide +kernel
theorem dX2_creditor_30 : decode cX2_creditor 30 = .ok (.invokevirtual 55, 3) := by decide +kernel
theorem dX2_creditor_33 : decode cX2_creditor 33 = .ok (.iload 4, 2) := by decide +kernel
theorem dX2_creditor_35 : decode cX2_creditor 35 = .ok (.if_icmp .le 15, 3) := by decide +kernel
theorem dX2_creditor_38 : decode cX2_creditor 38 = .ok (.iload 5, 2) := by decide +kernel
theorem dX2_creditor_40 : decode cX2_creditor 40 = .ok (.istore_n 3, 1) := by decide +kernel
theorem dX2_creditor_41 : decode cX2_creditor 41 = .ok (.aload_n 0, 1) := by decide +kernel
theorem dX2_creditor_42 : decode cX2_creditor 42 = .ok (.iload_n 1, 1) := by decide +kernel
theorem dX2_creditor_43 : decode cX2_creditor 43 = .ok (.iload 5, 2) := by decide +kernel
theorem dX2_creditor_45 : decode cX2_creditor 45 = .ok (.invokevirtual 55, 3) := by decide +kernel
theorem dX2_creditor_48 : decode cX2_creditor 48 = .ok (.istore 4, 2) := by decide +kernel
theorem dX2_creditor_50 : decode cX2_creditor 50 = .ok (.iinc 5 1, 3) := by decide +kernel
theorem dX2_creditor_53 : decode cX2_creditor 53 = .ok (.goto (-45), 3) := by decide +kernel
theorem dX2_creditor_56 : decode cX2_creditor 56 = .ok (.iload_n 3, 1) := by decide +kernel
theorem dX2_creditor_57 : decode cX2_creditor 57 = .ok (.ireturn, 1) := by decide +kernel
theorem dX2_wish_0 : decode cX2_wish 0 = .ok (.aload_n 0, 1) := by decide +kernel
theorem dX2_wish_1 : decode cX2_wish 1 = .ok (.iload_n 1, 1) := by decide +kernel
theorem dX2_wish_2 : decode cX2_wish 2 = .ok (.iload_n 2, 1) := by decide +kernel
theorem dX2_wish_3 : decode cX2_wish 3 = .ok (.invokevirtual 59, 3) := by decide +kernel
theorem dX2_wish_6 : decode cX2_wish 6 = .ok (.istore_n 3, 1) := by decide +kernel
theorem dX2_wish_7 : decode cX2_wish 7 = .ok (.iload_n 3, 1) := by decide +kernel
theorem dX2_wish_8 : decode cX2_wish 8 = .ok (.iconst (-1), 1) := by decide +kernel
theorem dX2_wish_9 : decode cX2_wish 9 = .ok (.if_icmp .eq 27, 3) := by decide +kernel
theorem dX2_wish_12 : decode cX2_wish 12 = .ok (.aload_n 0, 1) := by decide +kernel
theorem dX2_wish_13 : decode cX2_wish 13 = .ok (.getfield 24, 3) := by decide +kernel
theorem dX2_wish_16 : decode cX2_wish 16 = .ok (.iload_n 1, 1) := by decide +kernel
theorem dX2_wish_17 : decode cX2_wish 17 = .ok (.iaload, 1) := by decide +kernel
theorem dX2_wish_18 : decode cX2_wish 18 = .ok (.aload_n 0, 1) := by decide +kernel
theorem dX2_wish_19 : decode cX2_wish 19 = .ok (.getfield 28, 3) := by decide +kernel
theorem dX2_wish_22 : decode cX2_wish 22 = .ok (.iload_n 1, 1) := by decide +kernel
theorem dX2_wish_23 : decode cX2_wish 23 = .ok (.iaload, 1) := by decide +kernel
theorem dX2_wish_24 : decode cX2_wish 24 = .ok (.aload_n 0, 1) := by decide +kernel
theorem dX2_wish_25 : decode cX2_wish 25 = .ok (.iload_n 1, 1) := by decide +kernel
theorem dX2_wish_26 : decode cX2_wish 26 = .ok (.iload_n 3, 1) := by decide +kernel
theorem dX2_wish_27 : decode cX2_wish 27 = .ok (.invokevirtual 55, 3) := by decide +kernel
theorem dX2_wish_30 : decode cX2_wish 30 = .ok (.invokestatic 62, 3) := by decide +kernel
theorem dX2_wish_33 : decode cX2_wish 33 = .ok (.ifCond .ne 5, 3) := by decide +kernel
theorem dX2_wish_36 : decode cX2_wish 36 = .ok (.iconst (-1), 1) := by decide +kernel
theorem dX2_wish_37 : decode cX2_wish 37 = .ok (.ireturn, 1) := by decide +kernel
theorem dX2_wish_38 : decode cX2_wish 38 = .ok (.iload_n 3, 1) := by decide +kernel
theorem dX2_wish_39 : decode cX2_wish 39 = .ok (.ireturn, 1) := by decide +kernel
theorem dX2_owesInAll_0 : decode cX2_owesInAll 0 = .ok (.iconst 0, 1) := by decide +kernel
theorem dX2_owesInAll_1 : decode cX2_owesInAll 1 = .ok (.istore_n 2, 1) := by decide +kernel
theorem dX2_owesInAll_2 : decode cX2_owesInAll 2 = .ok (.iconst 0, 1) := by decide +kernel
theorem dX2_owesInAll_3 : decode cX2_owesInAll 3 = .ok (.istore_n 3, 1) := by decide +kernel
theorem dX2_owesInAll_4 : decode cX2_owesInAll 4 = .ok (.iload_n 3, 1) := by decide +kernel
theorem dX2_owesInAll_5 : decode cX2_owesInAll 5 = .ok (.aload_n 0, 1) := by decide +kernel
theorem dX2_owesInAll_6 : decode cX2_owesInAll 6 = .ok (.getfield 21, 3) := by decide +kernel
theorem dX2_owesInAll_9 : decode cX2_owesInAll 9 = .ok (.if_icmp .ge 18, 3) := by decide +kernel
theorem dX2_owesInAll_12 : decode cX2_owesInAll 12 = .ok (.iload_n 2, 1) := by decide +kernel
theorem dX2_owesInAll_13 : decode cX2_owesInAll 13 = .ok (.aload_n 0, 1) := by decide +kernel
theorem dX2_owesInAll_14 : decode cX2_owesInAll 14 = .ok (.iload_n 1, 1) := by decide +kernel
theorem dX2_owesInAll_15 : decode cX2_owesInAll 15 = .ok (.iload_n 3, 1) := by decide +kernel
theorem dX2_owesInAll_16 : decode cX2_owesInAll 16 = .ok (.invokevirtual 55, 3) := by decide +kernel
theorem dX2_owesInAll_19 : decode cX2_owesInAll 19 = .ok (.iadd, 1) := by decide +kernel
theorem dX2_owesInAll_20 : decode cX2_owesInAll 20 = .ok (.istore_n 2, 1) := by decide +kernel
theorem dX2_owesInAll_21 : decode cX2_owesInAll 21 = .ok (.iinc 3 1, 3) := by decide +kernel
theorem dX2_owesInAll_24 : decode cX2_owesInAll 24 = .ok (.goto (-20), 3) := by decide +kernel
theorem dX2_owesInAll_27 : decode cX2_owesInAll 27 = .ok (.iload_n 2, 1) := by decide +kernel
theorem dX2_owesInAll_28 : decode cX2_owesInAll 28 = .ok (.ireturn, 1) := by decide +kernel
theorem dX2_owed_0 : decode cX2_owed 0 = .ok (.iconst 0, 1) := by decide +kernel
theorem dX2_owed_1 : decode cX2_owed 1 = .ok (.istore_n 1, 1) := by decide +kernel
theorem dX2_owed_2 : decode cX2_owed 2 = .ok (.iconst 0, 1) := by decide +kernel
theorem dX2_owed_3 : decode cX2_owed 3 = .ok (.istore_n 2, 1) := by decide +kernel
theorem dX2_owed_4 : decode cX2_owed 4 = .ok (.iload_n 2, 1) := by decide +kernel
theorem dX2_owed_5 : decode cX2_owed 5 = .ok (.aload_n 0, 1) := by decide +kernel
theorem dX2_owed_6 : decode cX2_owed 6 = .ok (.getfield 21, 3) := by decide +kernel
theorem dX2_owed_9 : decode cX2_owed 9 = .ok (.if_icmp .ge 17, 3) := by decide +kernel
theorem dX2_owed_12 : decode cX2_owed 12 = .ok (.iload_n 1, 1) := by decide +kernel
theorem dX2_owed_13 : decode cX2_owed 13 = .ok (.aload_n 0, 1) := by decide +kernel
theorem dX2_owed_14 : decode cX2_owed 14 = .ok (.iload_n 2, 1) := by decide +kernel
theorem dX2_owed_15 : decode cX2_owed 15 = .ok (.invokevirtual 68, 3) := by decide +kernel
theorem dX2_owed_18 : decode cX2_owed 18 = .ok (.iadd, 1) := by decide +kernel
theorem dX2_owed_19 : decode cX2_owed 19 = .ok (.istore_n 1, 1) := by decide +kernel
theorem dX2_owed_20 : decode cX2_owed 20 = .ok (.iinc 2 1, 3) := by decide +kernel
theorem dX2_owed_23 : decode cX2_owed 23 = .ok (.goto (-19), 3) := by decide +kernel
theorem dX2_owed_26 : decode cX2_owed 26 = .ok (.iload_n 1, 1) := by decide +kernel
theorem dX2_owed_27 : decode cX2_owed 27 = .ok (.ireturn, 1) := by decide +kernel
theorem dX2_ruined_0 : decode cX2_ruined 0 = .ok (.iconst 0, 1) := by decide +kernel
theorem dX2_ruined_1 : decode cX2_ruined 1 = .ok (.istore_n 1, 1) := by decide +kernel
theorem dX2_ruined_2 : decode cX2_ruined 2 = .ok (.iconst 0, 1) := by decide +kernel
theorem dX2_ruined_3 : decode cX2_ruined 3 = .ok (.istore_n 2, 1) := by decide +kernel
theorem dX2_ruined_4 : decode cX2_ruined 4 = .ok (.iload_n 2, 1) := by decide +kernel
theorem dX2_ruined_5 : decode cX2_ruined 5 = .ok (.aload_n 0, 1) := by decide +kernel
theorem dX2_ruined_6 : decode cX2_ruined 6 = .ok (.getfield 21, 3) := by decide +kernel
theorem dX2_ruined_9 : decode cX2_ruined 9 = .ok (.if_icmp .ge 30, 3) := by decide +kernel
theorem dX2_ruined_12 : decode cX2_ruined 12 = .ok (.iload_n 1, 1) := by decide +kernel
theorem dX2_ruined_13 : decode cX2_ruined 13 = .ok (.aload_n 0, 1) := by decide +kernel
theorem dX2_ruined_14 : decode cX2_ruined 14 = .ok (.iload_n 2, 1) := by decide +kernel
theorem dX2_ruined_15 : decode cX2_ruined 15 = .ok (.invokevirtual 68, 3) := by decide +kernel
theorem dX2_ruined_18 : decode cX2_ruined 18 = .ok (.sipush 1000, 3) := by decide +kernel
theorem dX2_ruined_21 : decode cX2_ruined 21 = .ok (.if_icmp .lt 9, 3) := by decide +kernel
theorem dX2_ruined_24 : decode cX2_ruined 24 = .ok (.iconst 1, 1) := by decide +kernel
theorem dX2_ruined_25 : decode cX2_ruined 25 = .ok (.iload_n 2, 1) := by decide +kernel
theorem dX2_ruined_26 : decode cX2_ruined 26 = .ok (.ishl, 1) := by decide +kernel
theorem dX2_ruined_27 : decode cX2_ruined 27 = .ok (.goto 4, 3) := by decide +kernel
theorem dX2_ruined_30 : decode cX2_ruined 30 = .ok (.iconst 0, 1) := by decide +kernel
theorem dX2_ruined_31 : decode cX2_ruined 31 = .ok (.ior, 1) := by decide +kernel
theorem dX2_ruined_32 : decode cX2_ruined 32 = .ok (.istore_n 1, 1) := by decide +kernel
theorem dX2_ruined_33 : decode cX2_ruined 33 = .ok (.iinc 2 1, 3) := by decide +kernel
theorem dX2_ruined_36 : decode cX2_ruined 36 = .ok (.goto (-32), 3) := by decide +kernel
theorem dX2_ruined_39 : decode cX2_ruined 39 = .ok (.iload_n 1, 1) := by decide +kernel
theorem dX2_ruined_40 : decode cX2_ruined 40 = .ok (.ireturn, 1) := by decide +kernel
theorem dX2_drawDebts_0 : decode cX2_drawDebts 0 = .ok (.iload_n 1, 1) := by decide +kernel
theorem dX2_drawDebts_1 : decode cX2_drawDebts 1 = .ok (.istore_n 2, 1) := by decide +kernel
theorem dX2_drawDebts_2 : decode cX2_drawDebts 2 = .ok (.iconst 0, 1) := by decide +kernel
theorem dX2_drawDebts_3 : decode cX2_drawDebts 3 = .ok (.istore_n 3, 1) := by decide +kernel
theorem dX2_drawDebts_4 : decode cX2_drawDebts 4 = .ok (.iload_n 3, 1) := by decide +kernel
theorem dX2_drawDebts_5 : decode cX2_drawDebts 5 = .ok (.aload_n 0, 1) := by decide +kernel
theorem dX2_drawDebts_6 : decode cX2_drawDebts 6 = .ok (.getfield 21, 3) := by decide +kernel
theorem dX2_drawDebts_9 : decode cX2_drawDebts 9 = .ok (.if_icmp .ge 56, 3) := by decide +kernel
theorem dX2_drawDebts_12 : decode cX2_drawDebts 12 = .ok (.iconst 0, 1) := by decide +kernel
theorem dX2_drawDebts_13 : decode cX2_drawDebts 13 = .ok (.istore 4, 2) := by decide +kernel
theorem dX2_drawDebts_15 : decode cX2_drawDebts 15 = .ok (.iload 4, 2) := by decide +kernel
theorem dX2_drawDebts_17 : decode cX2_drawDebts 17 = .ok (.aload_n 0, 1) := by decide +kernel
theorem dX2_drawDebts_18 : decode cX2_drawDebts 18 = .ok (.getfield 21, 3) := by decide +kernel
theorem dX2_drawDebts_21 : decode cX2_drawDebts 21 = .ok (.if_icmp .ge 38, 3) := by decide +kernel
theorem dX2_drawDebts_24 : decode cX2_drawDebts 24 = .ok (.iload_n 3, 1) := by decide +kernel
theorem dX2_drawDebts_25 : decode cX2_drawDebts 25 = .ok (.iload 4, 2) := by decide +kernel
theorem dX2_drawDebts_27 : decode cX2_drawDebts 27 = .ok (.if_icmp .eq 26, 3) := by decide +kernel
theorem dX2_drawDebts_30 : decode cX2_drawDebts 30 = .ok (.iload_n 2, 1) := by decide +kernel
theorem dX2_drawDebts_31 : decode cX2_drawDebts 31 = .ok (.ldc 72, 2) := by decide +kernel
theorem dX2_drawDebts_33 : decode cX2_drawDebts 33 = .ok (.imul, 1) := by decide +kernel
theorem dX2_drawDebts_34 : decode cX2_drawDebts 34 = .ok (.sipush 12345, 3) := by decide +kernel
theorem dX2_drawDebts_37 : decode cX2_drawDebts 37 = .ok (.iadd, 1) := by decide +kernel
theorem dX2_drawDebts_38 : decode cX2_drawDebts 38 = .ok (.istore_n 2, 1) := by decide +kernel
theorem dX2_drawDebts_39 : decode cX2_drawDebts 39 = .ok (.aload_n 0, 1) := by decide +kernel
theorem dX2_drawDebts_40 : decode cX2_drawDebts 40 = .ok (.iload_n 3, 1) := by decide +kernel
theorem dX2_drawDebts_41 : decode cX2_drawDebts 41 = .ok (.iload 4, 2) := by decide +kernel
theorem dX2_drawDebts_43 : decode cX2_drawDebts 43 = .ok (.iload_n 2, 1) := by decide +kernel
theorem dX2_drawDebts_44 : decode cX2_drawDebts 44 = .ok (.bipush 9, 2) := by decide +kernel
theorem dX2_drawDebts_46 : decode cX2_drawDebts 46 = .ok (.iushr, 1) := by decide +kernel
theorem dX2_drawDebts_47 : decode cX2_drawDebts 47 = .ok (.bipush 100, 2) := by decide +kernel
theorem dX2_drawDebts_49 : decode cX2_drawDebts 49 = .ok (.irem, 1) := by decide +kernel
theorem dX2_drawDebts_50 : decode cX2_drawDebts 50 = .ok (.invokevirtual 43, 3) := by decide +kernel
theorem dX2_drawDebts_53 : decode cX2_drawDebts 53 = .ok (.iinc 4 1, 3) := by decide +kernel
theorem dX2_drawDebts_56 : decode cX2_drawDebts 56 = .ok (.goto (-41), 3) := by decide +kernel
theorem dX2_drawDebts_59 : decode cX2_drawDebts 59 = .ok (.iinc 3 1, 3) := by decide +kernel
theorem dX2_drawDebts_62 : decode cX2_drawDebts 62 = .ok (.goto (-58), 3) := by decide +kernel
theorem dX2_drawDebts_65 : decode cX2_drawDebts 65 = .ok (.return_, 1) := by decide +kernel
theorem dX3_init_0 : decode cX3_init 0 = .ok (.aload_n 0, 1) := by decide +kernel
theorem dX3_init_1 : decode cX3_init 1 = .ok (.invokespecial 3, 3) := by decide +kernel
theorem dX3_init_4 : decode cX3_init 4 = .ok (.aload_n 0, 1) := by decide +kernel
theorem dX3_init_5 : decode cX3_init 5 = .ok (.sipush 160, 3) := by decide +kernel
theorem dX3_init_8 : decode cX3_init 8 = .ok (.newarray .int, 2) := by decide +kernel
theorem dX3_init_10 : decode cX3_init 10 = .ok (.putfield 11, 3) := by decide +kernel
theorem dX3_init_13 : decode cX3_init 13 = .ok (.aload_n 0, 1) := by decide +kernel
theorem dX3_init_14 : decode cX3_init 14 = .ok (.iconst 0, 1) := by decide +kernel
theorem dX3_init_15 : decode cX3_init 15 = .ok (.putfield 15, 3) := by decide +kernel
theorem dX3_init_18 : decode cX3_init 18 = .ok (.aload_n 0, 1) := by decide +kernel
theorem dX3_init_19 : decode cX3_init 19 = .ok (.sipush 160, 3) := by decide +kernel
theorem dX3_init_22 : decode cX3_init 22 = .ok (.newarray .int, 2) := by decide +kernel
theorem dX3_init_24 : decode cX3_init 24 = .ok (.putfield 19, 3) := by decide +kernel
theorem dX3_init_27 : decode cX3_init 27 = .ok (.return_, 1) := by decide +kernel
theorem dX3_take_0 : decode cX3_take 0 = .ok (.aload_n 0, 1) := by decide +kernel
theorem dX3_take_1 : decode cX3_take 1 = .ok (.getfield 15, 3) := by decide +kernel
theorem dX3_take_4 : decode cX3_take 4 = .ok (.sipush 160, 3) := by decide +kernel
theorem dX3_take_7 : decode cX3_take 7 = .ok (.if_icmp .lt 5, 3) := by decide +kernel
theorem dX3_take_10 : decode cX3_take 10 = .ok (.iconst 0, 1) := by decide +kernel
theorem dX3_take_11 : decode cX3_take 11 = .ok (.ireturn, 1) := by decide +kernel
theorem dX3_take_12 : decode cX3_take 12 = .ok (.aload_n 0, 1) := by decide +kernel
theorem dX3_take_13 : decode cX3_take 13 = .ok (.getfield 11, 3) := by decide +kernel
theorem dX3_take_16 : decode cX3_take 16 = .ok (.aload_n 0, 1) := by decide +kernel
theorem dX3_take_17 : decode cX3_take 17 = .ok (.getfield 15, 3) := by decide +kernel
theorem dX3_take_20 : decode cX3_take 20 = .ok (.iload_n 1, 1) := by decide +kernel
theorem dX3_take_21 : decode cX3_take 21 = .ok (.iastore, 1) := by decide +kernel
theorem dX3_take_22 : decode cX3_take 22 = .ok (.aload_n 0, 1) := by decide +kernel
theorem dX3_take_23 : decode cX3_take 23 = .ok (.dup, 1) := by decide +kernel
theorem dX3_take_24 : decode cX3_take 24 = .ok (.getfield 15, 3) := by decide +kernel
theorem dX3_take_27 : decode cX3_take 27 = .ok (.iconst 1, 1) := by decide +kernel
theorem dX3_take_28 : decode cX3_take 28 = .ok (.iadd, 1) := by decide +kernel
theorem dX3_take_29 : decode cX3_take 29 = .ok (.putfield 15, 3) := by decide +kernel
theorem dX3_take_32 : decode cX3_take 32 = .ok (.iconst 1, 1) := by decide +kernel
theorem dX3_take_33 : decode cX3_take 33 = .ok (.ireturn, 1) := by decide +kernel
theorem dX3_read_0 : decode cX3_read 0 = .ok (.aload_n 0, 1) := by decide +kernel
theorem dX3_read_1 : decode cX3_read 1 = .ok (.iconst 0, 1) := by decide +kernel
theorem dX3_read_2 : decode cX3_read 2 = .ok (.putfield 22, 3) := by decide +kernel
theorem dX3_read_5 : decode cX3_read 5 = .ok (.aload_n 0, 1) := by decide +kernel
theorem dX3_read_6 : decode cX3_read 6 = .ok (.iconst 0, 1) := by decide +kernel
theorem dX3_read_7 : decode cX3_read 7 = .ok (.putfield 25, 3) := by decide +kernel
theorem dX3_read_10 : decode cX3_read 10 = .ok (.aload_n 0, 1) := by decide +kernel
theorem dX3_read_11 : decode cX3_read 11 = .ok (.iconst (-1), 1) := by decide +kernel
theorem dX3_read_12 : decode cX3_read 12 = .ok (.putfield 28, 3) := by decide +kernel
theorem dX3_read_15 : decode cX3_read 15 = .ok (.aload_n 0, 1) := by decide +kernel
theorem dX3_read_16 : decode cX3_read 16 = .ok (.invokevirtual 31, 3) := by decide +kernel
theorem dX3_read_19 : decode cX3_read 19 = .ok (.aload_n 0, 1) := by decide +kernel
theorem dX3_read_20 : decode cX3_read 20 = .ok (.iconst 5, 1) := by decide +kernel
theorem dX3_read_21 : decode cX3_read 21 = .ok (.invokevirtual 34, 3) := by decide +kernel
theorem dX3_read_24 : decode cX3_read 24 = .ok (.aload_n 0, 1) := by decide +kernel
theorem dX3_read_25 : decode cX3_read 25 = .ok (.iconst 0, 1) := by decide +kernel
theorem dX3_read_26 : decode cX3_read 26 = .ok (.invokevirtual 38, 3) := by decide +kernel
theorem dX3_read_29 : decode cX3_read 29 = .ok (.aload_n 0, 1) := by decide +kernel
theorem dX3_read_30 : decode cX3_read 30 = .ok (.bipush 59, 2) := by decide +kernel
theorem dX3_read_32 : decode cX3_read 32 = .ok (.invokevirtual 34, 3) := by decide +kernel
theorem dX3_read_35 : decode cX3_read 35 = .ok (.aload_n 0, 1) := by decide +kernel
theorem dX3_read_36 : decode cX3_read 36 = .ok (.aload_n 0, 1) := by decide +kernel
theorem dX3_read_37 : decode cX3_read 37 = .ok (.getfield 25, 3) := by decide +kernel
theorem dX3_read_40 : decode cX3_read 40 = .ok (.putfield 41, 3) := by decide +kernel
theorem dX3_read_43 : decode cX3_read 43 = .ok (.aload_n 0, 1) := by decide +kernel
theorem dX3_read_44 : decode cX3_read 44 = .ok (.bipush 6, 2) := by decide +kernel
theorem dX3_read_46 : decode cX3_read 46 = .ok (.invokevirtual 34, 3) := by decide +kernel
theorem dX3_read_49 : decode cX3_read 49 = .ok (.aload_n 0, 1) := by decide +kernel
theorem dX3_read_50 : decode cX3_read 50 = .ok (.iconst 0, 1) := by decide +kernel
theorem dX3_read_51 : decode cX3_read 51 = .ok (.invokevirtual 38, 3) := by decide +kernel
theorem dX3_read_54 : decode cX3_read 54 = .ok (.aload_n 0, 1) := by decide +kernel
theorem dX3_read_55 : decode cX3_read 55 = .ok (.bipush 59, 2) := by decide +kernel
theorem dX3_read_57 : decode cX3_read 57 = .ok (.invokevirtual 34, 3) := by decide +kernel
theorem dX3_read_60 : decode cX3_read 60 = .ok (.aload_n 0, 1) := by decide +kernel
theorem dX3_read_61 : decode cX3_read 61 = .ok (.aload_n 0, 1) := by decide +kernel
theorem dX3_read_62 : decode cX3_read 62 = .ok (.getfield 25, 3) := by decide +kernel
theorem dX3_read_65 : decode cX3_read 65 = .ok (.putfield 44, 3) := by decide +kernel
theorem dX3_read_68 : decode cX3_read 68 = .ok (.aload_n 0, 1) := by decide +kernel
theorem dX3_read_69 : decode cX3_read 69 = .ok (.bipush 7, 2) := by decide +kernel
theorem dX3_read_71 : decode cX3_read 71 = .ok (.invokevirtual 34, 3) := by decide +kernel
theorem dX3_read_74 : decode cX3_read 74 = .ok (.aload_n 0, 1) := by decide +kernel
theorem dX3_read_75 : decode cX3_read 75 = .ok (.iconst 0, 1) := by decide +kernel
theorem dX3_read_76 : decode cX3_read 76 = .ok (.invokevirtual 38, 3) := by decide +kernel
theorem dX3_read_79 : decode cX3_read 79 = .ok (.aload_n 0, 1) := by decide +kernel
theorem dX3_read_80 : decode cX3_read 80 = .ok (.bipush 59, 2) := by decide +kernel
theorem dX3_read_82 : decode cX3_read 82 = .ok (.invokevirtual 34, 3) := by decide +kernel
theorem dX3_read_85 : decode cX3_read 85 = .ok (.aload_n 0, 1) := by decide +kernel
theorem dX3_read_86 : decode cX3_read 86 = .ok (.getfield 47, 3) := by decide +kernel
theorem dX3_read_89 : decode cX3_read 89 = .ok (.ifCond .eq 7, 3) := by decide +kernel
theorem dX3_read_92 : decode cX3_read 92 = .ok (.aload_n 0, 1) := by decide +kernel
theorem dX3_read_93 : decode cX3_read 93 = .ok (.invokevirtual 50, 3) := by decide +kernel
theorem dX3_read_96 : decode cX3_read 96 = .ok (.aload_n 0, 1) := by decide +kernel
theorem dX3_read_97 : decode cX3_read 97 = .ok (.getfield 28, 3) := by decide +kernel
theorem dX3_read_100 : decode cX3_read 100 = .ok (.ireturn, 1) := by decide +kernel
theorem dX3_rule_0 : decode cX3_rule 0 = .ok (.new 53, 3) := by decide +kernel
theorem dX3_rule_3 : decode cX3_rule 3 = .ok (.dup, 1) := by decide +kernel
theorem dX3_rule_4 : decode cX3_rule 4 = .ok (.aload_n 0, 1) := by decide +kernel
theorem dX3_rule_5 : decode cX3_rule 5 = .ok (.getfield 19, 3) := by decide +kernel
theorem dX3_rule_8 : decode cX3_rule 8 = .ok (.aload_n 0, 1) := by decide +kernel
theorem dX3_rule_9 : decode cX3_rule 9 = .ok (.getfield 25, 3) := by decide +kernel
theorem dX3_rule_12 : decode cX3_rule 12 = .ok (.invokestatic 55, 3) := by decide +kernel
theorem dX3_rule_15 : decode cX3_rule 15 = .ok (.aload_n 0, 1) := by decide +kernel
theorem dX3_rule_16 : decode cX3_rule 16 = .ok (.getfield 41, 3) := by decide +kernel
theorem dX3_rule_19 : decode cX3_rule 19 = .ok (.aload_n 0, 1) := by decide +kernel
theorem dX3_rule_20 : decode cX3_rule 20 = .ok (.getfield 44, 3) := by decide +kernel
theorem dX3_rule_23 : decode cX3_rule 23 = .ok (.invokespecial 61, 3) := by decide +kernel
theorem dX3_rule_26 : decode cX3_rule 26 = .ok (.areturn, 1) := by decide +kernel
theorem dX3_readEither_0 : decode cX3_readEither 0 = .ok (.aload_n 0, 1) := by decide +kernel
theorem dX3_readEither_1 : decode cX3_readEither 1 = .ok (.iload_n 1, 1) := by decide +kernel
theorem dX3_readEither_2 : decode cX3_readEither 2 = .ok (.invokevirtual 64, 3) := by decide +kernel
theorem dX3_readEither_5 : decode cX3_readEither 5 = .ok (.iconst 0, 1) := by decide +kernel
theorem dX3_readEither_6 : decode cX3_readEither 6 = .ok (.istore_n 2, 1) := by decide +kernel
theorem dX3_readEither_7 : decode cX3_readEither 7 = .ok (.iload_n 2, 1) := by decide +kernel
theorem dX3_readEither_8 : decode cX3_readEither 8 = .ok (.sipush 160, 3) := by decide +kernel
theorem dX3_readEither_11 : decode cX3_readEither 11 = .ok (.if_icmp .ge 34, 3) := by decide +kernel
theorem dX3_readEither_14 : decode cX3_readEither 14 = .ok (.aload_n 0, 1) := by decide +kernel
theorem dX3_readEither_15 : decode cX3_readEither 15 = .ok (.getfield 47, 3) := by decide +kernel
theorem dX3_readEither_18 : decode cX3_readEither 18 = .ok (.bipush 8, 2) := by decide +kernel
theorem dX3_readEither_20 : decode cX3_readEither 20 = .ok (.if_icmp .ne 25, 3) := by decide +kernel
theorem dX3_readEither_23 : decode cX3_readEither 23 = .ok (.aload_n 0, 1) := by decide +kernel
theorem dX3_readEither_24 : decode cX3_readEither 24 = .ok (.invokevirtual 31, 3) := by decide +kernel
theorem dX3_readEither_27 : decode cX3_readEither 27 = .ok (.aload_n 0, 1) := by decide +kernel
theorem dX3_readEither_28 : decode cX3_readEither 28 = .ok (.iload_n 1, 1) := by decide +kernel
theorem dX3_readEither_29 : decode cX3_readEither 29 = .ok (.invokevirtual 64, 3) := by decide +kernel
theorem dX3_readEither_32 : decode cX3_readEither 32 = .ok (.aload_n 0, 1) := by decide +kernel
theorem dX3_readEither_33 : decode cX3_readEither 33 = .ok (.sipush 20008, 3) := by decide +kernel
theorem dX3_readEither_36 : decode cX3_readEither 36 = .ok (.invokevirtual 67, 3) := by decide +kernel
theorem dX3_readEither_39 : decode cX3_readEither 39 = .ok (.iinc 2 1, 3) := by decide +kernel
theorem dX3_readEither_42 : decode cX3_readEither 42 = .ok (.goto (-35), 3) := by decide +kernel
theorem dX3_readEither_45 : decode cX3_readEither 45 = .ok (.return_, 1) := by decide +kernel
theorem dX3_readBoth_0 : decode cX3_readBoth 0 = .ok (.aload_n 0, 1) := by decide +kernel
theorem dX3_readBoth_1 : decode cX3_readBoth 1 = .ok (.iload_n 1, 1) := by decide +kernel
theorem dX3_readBoth_2 : decode cX3_readBoth 2 = .ok (.invokevirtual 70, 3) := by decide +kernel
theorem dX3_readBoth_5 : decode cX3_readBoth 5 = .ok (.iconst 0, 1) := by decide +kernel
theorem dX3_readBoth_6 : decode cX3_readBoth 6 = .ok (.istore_n 2, 1) := by decide +kernel
theorem dX3_readBoth_7 : decode cX3_readBoth 7 = .ok (.iload_n 2, 1) := by decide +kernel
theorem dX3_readBoth_8 : decode cX3_readBoth 8 = .ok (.sipush 160, 3) := by decide +kernel
theorem dX3_readBoth_11 : decode cX3_readBoth 11 = .ok (.if_icmp .ge 34, 3) := by decide +kernel
theorem dX3_readBoth_14 : decode cX3_readBoth 14 = .ok (.aload_n 0, 1) := by decide +kernel
theorem dX3_readBoth_15 : decode cX3_readBoth 15 = .ok (.getfield 47, 3) := by decide +kernel
theorem dX3_readBoth_18 : decode cX3_readBoth 18 = .ok (.bipush 9, 2) := by decide +kernel
theorem dX3_readBoth_20 : decode cX3_readBoth 20 = .ok (.if_icmp .ne 25, 3) := by decide +kernel
theorem dX3_readBoth_23 : decode cX3_readBoth 23 = .ok (.aload_n 0, 1) := by decide +kernel
theorem dX3_readBoth_24 : decode cX3_readBoth 24 = .ok (.invokevirtual 31, 3) := by decide +kernel
theorem dX3_readBoth_27 : decode cX3_readBoth 27 = .ok (.aload_n 0, 1) := by decide +kernel
theorem dX3_readBoth_28 : decode cX3_readBoth 28 = .ok (.iload_n 1, 1) := by decide +kernel
theorem dX3_readBoth_29 : decode cX3_readBoth 29 = .ok (.invokevirtual 70, 3) := by decide +kernel
theorem dX3_readBoth_32 : decode cX3_readBoth 32 = .ok (.aload_n 0, 1) := by decide +kernel
theorem dX3_readBoth_33 : decode cX3_readBoth 33 = .ok (.sipush 20009, 3) := by decide +kernel
theorem dX3_readBoth_36 : decode cX3_readBoth 36 = .ok (.invokevirtual 67, 3) := by decide +kernel
theorem dX3_readBoth_39 : decode cX3_readBoth 39 = .ok (.iinc 2 1, 3) := by decide +kernel
theorem dX3_readBoth_42 : decode cX3_readBoth 42 = .ok (.goto (-35), 3) := by decide +kernel
theorem dX3_readBoth_45 : decode cX3_readBoth 45 = .ok (.return_, 1) := by decide +kernel
theorem dX3_readNot_0 : decode cX3_readNot 0 = .ok (.aload_n 0, 1) := by decide +kernel
theorem dX3_readNot_1 : decode cX3_readNot 1 = .ok (.getfield 47, 3) := by decide +kernel
theorem dX3_readNot_4 : decode cX3_readNot 4 = .ok (.bipush 10, 2) := by decide +kernel
theorem dX3_readNot_6 : decode cX3_readNot 6 = .ok (.if_icmp .ne 26, 3) := by decide +kernel
theorem dX3_readNot_9 : decode cX3_readNot 9 = .ok (.aload_n 0, 1) := by decide +kernel
theorem dX3_readNot_10 : decode cX3_readNot 10 = .ok (.iload_n 1, 1) := by decide +kernel
theorem dX3_readNot_11 : decode cX3_readNot 11 = .ok (.invokevirtual 73, 3) := by decide +kernel
theorem dX3_readNot_14 : decode cX3_readNot 14 = .ok (.ifCond .eq 17, 3) := by decide +kernel
theorem dX3_readNot_17 : decode cX3_readNot 17 = .ok (.aload_n 0, 1) := by decide +kernel
theorem dX3_readNot_18 : decode cX3_readNot 18 = .ok (.iload_n 1, 1) := by decide +kernel
theorem dX3_readNot_19 : decode cX3_readNot 19 = .ok (.iconst 1, 1) := by decide +kernel
theorem dX3_readNot_20 : decode cX3_readNot 20 = .ok (.iadd, 1) := by decide +kernel
theorem dX3_readNot_21 : decode cX3_readNot 21 = .ok (.invokevirtual 70, 3) := by decide +kernel
theorem dX3_readNot_24 : decode cX3_readNot 24 = .ok (.aload_n 0, 1) := by decide +kernel
theorem dX3_readNot_25 : decode cX3_readNot 25 = .ok (.sipush 20010, 3) := by decide +kernel
theorem dX3_readNot_28 : decode cX3_readNot 28 = .ok (.invokevirtual 67, 3) := by decide +kernel
theorem dX3_readNot_31 : decode cX3_readNot 31 = .ok (.return_, 1) := by decide +kernel
theorem dX3_readNot_32 : decode cX3_readNot 32 = .ok (.aload_n 0, 1) := by decide +kernel
theorem dX3_readNot_33 : decode cX3_readNot 33 = .ok (.iload_n 1, 1) := by decide +kernel
theorem dX3_readNot_34 : decode cX3_readNot 34 = .ok (.invokevirtual 77, 3) := by decide +kernel
theorem dX3_readNot_37 : decode cX3_readNot 37 = .ok (.aload_n 0, 1) := by decide +kernel
theorem dX3_readNot_38 : decode cX3_readNot 38 = .ok (.getfield 47, 3) := by decide +kernel
theorem dX3_readNot_41 : decode cX3_readNot 41 = .ok (.bipush 60, 2) := by decide +kernel
theorem dX3_readNot_43 : decode cX3_readNot 43 = .ok (.if_icmp .eq 12, 3) := by decide +kernel
theorem dX3_readNot_46 : decode cX3_readNot 46 = .ok (.aload_n 0, 1) := by decide +kernel
theorem dX3_readNot_47 : decode cX3_readNot 47 = .ok (.getfield 47, 3) := by decide +kernel
theorem dX3_readNot_50 : decode cX3_readNot 50 = .ok (.bipush 61, 2) := by decide +kernel
theorem dX3_readNot_52 : decode cX3_readNot 52 = .ok (.if_icmp .ne 26, 3) := by decide +kernel
theorem dX3_readNot_55 : decode cX3_readNot 55 = .ok (.aload_n 0, 1) := by decide +kernel
theorem dX3_readNot_56 : decode cX3_readNot 56 = .ok (.getfield 47, 3) := by decide +kernel
theorem dX3_readNot_59 : decode cX3_readNot 59 = .ok (.istore_n 2, 1) := by decide +kernel
theorem dX3_readNot_60 : decode cX3_readNot 60 = .ok (.aload_n 0, 1) := by decide +kernel
theorem dX3_readNot_61 : decode cX3_readNot 61 = .ok (.invokevirtual 31, 3) := by decide +kernel
theorem dX3_readNot_64 : decode cX3_readNot 64 = .ok (.aload_n 0, 1) := by decide +kernel
theorem dX3_readNot_65 : decode cX3_readNot 65 = .ok (.iload_n 1, 1) := by decide +kernel
theorem dX3_readNot_66 : decode cX3_readNot 66 = .ok (.invokevirtual 77, 3) := by decide +kernel
theorem dX3_readNot_69 : decode cX3_readNot 69 = .ok (.aload_n 0, 1) := by decide +kernel
theorem dX3_readNot_70 : decode cX3_readNot 70 = .ok (.sipush 20000, 3) := by decide +kernel
theorem dX3_readNot_73 : decode cX3_readNot 73 = .ok (.iload_n 2, 1) := by decide +kernel
theorem dX3_readNot_74 : decode cX3_readNot 74 = .ok (.iadd, 1) := by decide +kernel
theorem dX3_readNot_75 : decode cX3_readNot 75 = .ok (.invokevirtual 67, 3) := by decide +kernel
theorem dX3_readNot_78 : decode cX3_readNot 78 = .ok (.return_, 1) := by decide +kernel
theorem dX3_readSum_0 : decode cX3_readSum 0 = .ok (.aload_n 0, 1) := by decide +kernel
theorem dX3_readSum_1 : decode cX3_readSum 1 = .ok (.iload_n 1, 1) := by decide +kernel
theorem dX3_readSum_2 : decode cX3_readSum 2 = .ok (.invokevirtual 80, 3) := by decide +kernel
theorem dX3_readSum_5 : decode cX3_readSum 5 = .ok (.iconst 0, 1) := by decide +kernel
theorem dX3_readSum_6 : decode cX3_readSum 6 = .ok (.istore_n 2, 1) := by decide +kernel
theorem dX3_readSum_7 : decode cX3_readSum 7 = .ok (.iload_n 2, 1) := by decide +kernel
theorem dX3_readSum_8 : decode cX3_readSum 8 = .ok (.sipush 160, 3) := by decide +kernel
theorem dX3_readSum_11 : decode cX3_readSum 11 = .ok (.if_icmp .ge 50, 3) := by decide +kernel
theorem dX3_readSum_14 : decode cX3_readSum 14 = .ok (.aload_n 0, 1) := by decide +kernel
theorem dX3_readSum_15 : decode cX3_readSum 15 = .ok (.getfield 47, 3) := by decide +kernel
theorem dX3_readSum_18 : decode cX3_readSum 18 = .ok (.bipush 43, 2) := by decide +kernel
theorem dX3_readSum_20 : decode cX3_readSum 20 = .ok (.if_icmp .eq 12, 3) := by decide +kernel
theorem dX3_readSum_23 : decode cX3_readSum 23 = .ok (.aload_n 0, 1) := by decide +kernel
theorem dX3_readSum_24 : decode cX3_readSum 24 = .ok (.getfield 47, 3) := by decide +kernel
theorem dX3_readSum_27 : decode cX3_readSum 27 = .ok (.bipush 45, 2) := by decide +kernel
theorem dX3_readSum_29 : decode cX3_readSum 29 = .ok (.if_icmp .ne 32, 3) := by decide +kernel
theorem dX3_readSum_32 : decode cX3_readSum 32 = .ok (.aload_n 0, 1) := by decide +kernel
theorem dX3_readSum_33 : decode cX3_readSum 33 = .ok (.getfield 47, 3) := by decide +kernel
theorem dX3_readSum_36 : decode cX3_readSum 36 = .ok (.istore_n 3, 1) := by decide +kernel
theorem dX3_readSum_37 : decode cX3_readSum 37 = .ok (.aload_n 0, 1) := by decide +kernel
theorem dX3_readSum_38 : decode cX3_readSum 38 = .ok (.invokevirtual 31, 3) := by decide +kernel
theorem dX3_readSum_41 : decode cX3_readSum 41 = .ok (.aload_n 0, 1) := by decide +kernel
theorem dX3_readSum_42 : decode cX3_readSum 42 = .ok (.iload_n 1, 1) := by decide +kernel
theorem dX3_readSum_43 : decode cX3_readSum 43 = .ok (.invokevirtual 80, 3) := by decide +kernel
theorem dX3_readSum_46 : decode cX3_readSum 46 = .ok (.aload_n 0, 1) := by decide +kernel
theorem dX3_readSum_47 : decode cX3_readSum 47 = .ok (.sipush 20000, 3) := by decide +kernel
theorem dX3_readSum_50 : decode cX3_readSum 50 = .ok (.iload_n 3, 1) := by decide +kernel
theorem dX3_readSum_51 : decode cX3_readSum 51 = .ok (.iadd, 1) := by decide +kernel
theorem dX3_readSum_52 : decode cX3_readSum 52 = .ok (.invokevirtual 67, 3) := by decide +kernel
theorem dX3_readSum_55 : decode cX3_readSum 55 = .ok (.iinc 2 1, 3) := by decide +kernel
theorem dX3_readSum_58 : decode cX3_readSum 58 = .ok (.goto (-51), 3) := by decide +kernel
theorem dX3_readSum_61 : decode cX3_readSum 61 = .ok (.return_, 1) := by decide +kernel
theorem dX3_readTerm_0 : decode cX3_readTerm 0 = .ok (.aload_n 0, 1) := by decide +kernel
theorem dX3_readTerm_1 : decode cX3_readTerm 1 = .ok (.iload_n 1, 1) := by decide +kernel
theorem dX3_readTerm_2 : decode cX3_readTerm 2 = .ok (.invokevirtual 83, 3) := by decide +kernel
theorem dX3_readTerm_5 : decode cX3_readTerm 5 = .ok (.iconst 0, 1) := by decide +kernel
theorem dX3_readTerm_6 : decode cX3_readTerm 6 = .ok (.istore_n 2, 1) := by decide +kernel
theorem dX3_readTerm_7 : decode cX3_readTerm 7 = .ok (.iload_n 2, 1) := by decide +kernel
theorem dX3_readTerm_8 : decode cX3_readTerm 8 = .ok (.sipush 160, 3) := by decide +kernel
theorem dX3_readTerm_11 : decode cX3_readTerm 11 = .ok (.if_icmp .ge 34, 3) := by decide +kernel
theorem dX3_readTerm_14 : decode cX3_readTerm 14 = .ok (.aload_n 0, 1) := by decide +kernel
theorem dX3_readTerm_15 : decode cX3_readTerm 15 = .ok (.getfield 47, 3) := by decide +kernel
theorem dX3_readTerm_18 : decode cX3_readTerm 18 = .ok (.bipush 42, 2) := by decide +kernel
theorem dX3_readTerm_20 : decode cX3_readTerm 20 = .ok (.if_icmp .ne 25, 3) := by decide +kernel
theorem dX3_readTerm_23 : decode cX3_readTerm 23 = .ok (.aload_n 0, 1) := by decide +kernel
theorem dX3_readTerm_24 : decode cX3_readTerm 24 = .ok (.invokevirtual 31, 3) := by decide +kernel
theorem dX3_readTerm_27 : decode cX3_readTerm 27 = .ok (.aload_n 0, 1) := by decide +kernel
theorem dX3_readTerm_28 : decode cX3_readTerm 28 = .ok (.iload_n 1, 1) := by decide +kernel
theorem dX3_readTerm_29 : decode cX3_readTerm 29 = .ok (.invokevirtual 83, 3) := by decide +kernel
theorem dX3_readTerm_32 : decode cX3_readTerm 32 = .ok (.aload_n 0, 1) := by decide +kernel
theorem dX3_readTerm_33 : decode cX3_readTerm 33 = .ok (.sipush 20042, 3) := by decide +kernel
theorem dX3_readTerm_36 : decode cX3_readTerm 36 = .ok (.invokevirtual 67, 3) := by decide +kernel
theorem dX3_readTerm_39 : decode cX3_readTerm 39 = .ok (.iinc 2 1, 3) := by decide +kernel
theorem dX3_readTerm_42 : decode cX3_readTerm 42 = .ok (.goto (-35), 3) := by decide +kernel
theorem dX3_readTerm_45 : decode cX3_readTerm 45 = .ok (.return_, 1) := by decide +kernel
theorem dX3_readOne_0 : decode cX3_readOne 0 = .ok (.aload_n 0, 1) := by decide +kernel
theorem dX3_readOne_1 : decode cX3_readOne 1 = .ok (.getfield 47, 3) := by decide +kernel
theorem dX3_readOne_4 : decode cX3_readOne 4 = .ok (.lookupswitch 119 #[(2, 44), (3, 57), (40, 97), (45, 74)], 44) := by decide +kernel
theorem dX3_readOne_48 : decode cX3_readOne 48 = .ok (.aload_n 0, 1) := by decide +kernel
theorem dX3_readOne_49 : decode cX3_readOne 49 = .ok (.aload_n 0, 1) := by decide +kernel
theorem dX3_readOne_50 : decode cX3_readOne 50 = .ok (.getfield 86, 3) := by decide +kernel
theorem dX3_readOne_53 : decode cX3_readOne 53 = .ok (.invokevirtual 67, 3) := by decide +kernel
theorem dX3_readOne_56 : decode cX3_readOne 56 = .ok (.aload_n 0, 1) := by decide +kernel
theorem dX3_readOne_57 : decode cX3_readOne 57 = .ok (.invokevirtual 31, 3) := by decide +kernel
theorem dX3_readOne_60 : decode cX3_readOne 60 = .ok (.return_, 1) := by decide +kernel
theorem dX3_readOne_61 : decode cX3_readOne 61 = .ok (.aload_n 0, 1) := by decide +kernel
theorem dX3_readOne_62 : decode cX3_readOne 62 = .ok (.sipush 10000, 3) := by decide +kernel
theorem dX3_readOne_65 : decode cX3_readOne 65 = .ok (.aload_n 0, 1) := by decide +kernel
theorem dX3_readOne_66 : decode cX3_readOne 66 = .ok (.getfield 86, 3) := by decide +kernel
theorem dX3_readOne_69 : decode cX3_readOne 69 = .ok (.iadd, 1) := by decide +kernel
theorem dX3_readOne_70 : decode cX3_readOne 70 = .ok (.invokevirtual 67, 3) := by decide +kernel
theorem dX3_readOne_73 : decode cX3_readOne 73 = .ok (.aload_n 0, 1) := by decide +kernel
theorem dX3_readOne_74 : decode cX3_readOne 74 = .ok (.invokevirtual 31, 3) := by decide +kernel
theorem dX3_readOne_77 : decode cX3_readOne 77 = .ok (.return_, 1) := by decide +kernel
theorem dX3_readOne_78 : decode cX3_readOne 78 = .ok (.aload_n 0, 1) := by decide +kernel
theorem dX3_readOne_79 : decode cX3_readOne 79 = .ok (.iload_n 1, 1) := by decide +kernel
theorem dX3_readOne_80 : decode cX3_readOne 80 = .ok (.invokevirtual 73, 3) := by decide +kernel
theorem dX3_readOne_83 : decode cX3_readOne 83 = .ok (.ifCond .eq 17, 3) := by decide +kernel
theorem dX3_readOne_86 : decode cX3_readOne 86 = .ok (.aload_n 0, 1) := by decide +kernel
theorem dX3_readOne_87 : decode cX3_readOne 87 = .ok (.iload_n 1, 1) := by decide +kernel
theorem dX3_readOne_88 : decode cX3_readOne 88 = .ok (.iconst 1, 1) := by decide +kernel
theorem dX3_readOne_89 : decode cX3_readOne 89 = .ok (.iadd, 1) := by decide +kernel
theorem dX3_readOne_90 : decode cX3_readOne 90 = .ok (.invokevirtual 83, 3) := by decide +kernel
theorem dX3_readOne_93 : decode cX3_readOne 93 = .ok (.aload_n 0, 1) := by decide +kernel
theorem dX3_readOne_94 : decode cX3_readOne 94 = .ok (.sipush 20004, 3) := by decide +kernel
theorem dX3_readOne_97 : decode cX3_readOne 97 = .ok (.invokevirtual 67, 3) := by decide +kernel
theorem dX3_readOne_100 : decode cX3_readOne 100 = .ok (.return_, 1) := by decide +kernel
theorem dX3_readOne_101 : decode cX3_readOne 101 = .ok (.aload_n 0, 1) := by decide +kernel
theorem dX3_readOne_102 : decode cX3_readOne 102 = .ok (.iload_n 1, 1) := by decide +kernel
theorem dX3_readOne_103 : decode cX3_readOne 103 = .ok (.invokevirtual 73, 3) := by decide +kernel
theorem dX3_readOne_106 : decode cX3_readOne 106 = .ok (.ifCond .eq 16, 3) := by decide +kernel
theorem dX3_readOne_109 : decode cX3_readOne 109 = .ok (.aload_n 0, 1) := by decide +kernel
theorem dX3_readOne_110 : decode cX3_readOne 110 = .ok (.iload_n 1, 1) := by decide +kernel
theorem dX3_readOne_111 : decode cX3_readOne 111 = .ok (.iconst 1, 1) := by decide +kernel
theorem dX3_readOne_112 : decode cX3_readOne 112 = .ok (.iadd, 1) := by decide +kernel
theorem dX3_readOne_113 : decode cX3_readOne 113 = .ok (.invokevirtual 38, 3) := by decide +kernel
theorem dX3_readOne_116 : decode cX3_readOne 116 = .ok (.aload_n 0, 1) := by decide +kernel
theorem dX3_readOne_117 : decode cX3_readOne 117 = .ok (.bipush 41, 2) := by decide +kernel
theorem dX3_readOne_119 : decode cX3_readOne 119 = .ok (.invokevirtual 34, 3) := by decide +kernel
theorem dX3_readOne_122 : decode cX3_readOne 122 = .ok (.return_, 1) := by decide +kernel
theorem dX3_readOne_123 : decode cX3_readOne 123 = .ok (.aload_n 0, 1) := by decide +kernel
theorem dX3_readOne_124 : decode cX3_readOne 124 = .ok (.invokevirtual 50, 3) := by decide +kernel
theorem dX3_readOne_127 : decode cX3_readOne 127 = .ok (.return_, 1) := by decide +kernel
theorem dX3_opens_0 : decode cX3_opens 0 = .ok (.iload_n 1, 1) := by decide +kernel
theorem dX3_opens_1 : decode cX3_opens 1 = .ok (.iconst 5, 1) := by decide +kernel
theorem dX3_opens_2 : decode cX3_opens 2 = .ok (.if_icmp .lt 9, 3) := by decide +kernel
theorem dX3_opens_5 : decode cX3_opens 5 = .ok (.aload_n 0, 1) := by decide +kernel
theorem dX3_opens_6 : decode cX3_opens 6 = .ok (.invokevirtual 50, 3) := by decide +kernel
theorem dX3_opens_9 : decode cX3_opens 9 = .ok (.iconst 0, 1) := by decide +kernel
theorem dX3_opens_10 : decode cX3_opens 10 = .ok (.ireturn, 1) := by decide +kernel
theorem dX3_opens_11 : decode cX3_opens 11 = .ok (.aload_n 0, 1) := by decide +kernel
theorem dX3_opens_12 : decode cX3_opens 12 = .ok (.invokevirtual 31, 3) := by decide +kernel
theorem dX3_opens_15 : decode cX3_opens 15 = .ok (.iconst 1, 1) := by decide +kernel
theorem dX3_opens_16 : decode cX3_opens 16 = .ok (.ireturn, 1) := by decide +kernel
theorem dX3_expect_0 : decode cX3_expect 0 = .ok (.aload_n 0, 1) := by decide +kernel
theorem dX3_expect_1 : decode cX3_expect 1 = .ok (.getfield 47, 3) := by decide +kernel
theorem dX3_expect_4 : decode cX3_expect 4 = .ok (.iload_n 1, 1) := by decide +kernel
theorem dX3_expect_5 : decode cX3_expect 5 = .ok (.if_icmp .ne 10, 3) := by decide +kernel
theorem dX3_expect_8 : decode cX3_expect 8 = .ok (.aload_n 0, 1) := by decide +kernel
theorem dX3_expect_9 : decode cX3_expect 9 = .ok (.invokevirtual 31, 3) := by decide +kernel
theorem dX3_expect_12 : decode cX3_expect 12 = .ok (.goto 7, 3) := by decide +kernel
theorem dX3_expect_15 : decode cX3_expect 15 = .ok (.aload_n 0, 1) := by decide +kernel
theorem dX3_expect_16 : decode cX3_expect 16 = .ok (.invokevirtual 50, 3) := by decide +kernel
theorem dX3_expect_19 : decode cX3_expect 19 = .ok (.return_, 1) := by decide +kernel
theorem dX3_fail_0 : decode cX3_fail 0 = .ok (.aload_n 0, 1) := by decide +kernel
theorem dX3_fail_1 : decode cX3_fail 1 = .ok (.getfield 28, 3) := by decide +kernel
theorem dX3_fail_4 : decode cX3_fail 4 = .ok (.iconst (-1), 1) := by decide +kernel
theorem dX3_fail_5 : decode cX3_fail 5 = .ok (.if_icmp .ne 11, 3) := by decide +kernel
theorem dX3_fail_8 : decode cX3_fail 8 = .ok (.aload_n 0, 1) := by decide +kernel
theorem dX3_fail_9 : decode cX3_fail 9 = .ok (.aload_n 0, 1) := by decide +kernel
theorem dX3_fail_10 : decode cX3_fail 10 = .ok (.getfield 89, 3) := by decide +kernel
theorem dX3_fail_13 : decode cX3_fail 13 = .ok (.putfield 28, 3) := by decide +kernel
theorem dX3_fail_16 : decode cX3_fail 16 = .ok (.aload_n 0, 1) := by decide +kernel
theorem dX3_fail_17 : decode cX3_fail 17 = .ok (.iconst 1, 1) := by decide +kernel
theorem dX3_fail_18 : decode cX3_fail 18 = .ok (.putfield 47, 3) := by decide +kernel
theorem dX3_fail_21 : decode cX3_fail 21 = .ok (.return_, 1) := by decide +kernel
theorem dX3_add_0 : decode cX3_add 0 = .ok (.aload_n 0, 1) := by decide +kernel
theorem dX3_add_1 : decode cX3_add 1 = .ok (.getfield 25, 3) := by decide +kernel
theorem dX3_add_4 : decode cX3_add 4 = .ok (.sipush 160, 3) := by decide +kernel
theorem dX3_add_7 : decode cX3_add 7 = .ok (.if_icmp .ge 23, 3) := by decide +kernel
theorem dX3_add_10 : decode cX3_add 10 = .ok (.aload_n 0, 1) := by decide +kernel
theorem dX3_add_11 : decode cX3_add 11 = .ok (.getfield 19, 3) := by decide +kernel
theorem dX3_add_14 : decode cX3_add 14 = .ok (.aload_n 0, 1) := by decide +kernel
theorem dX3_add_15 : decode cX3_add 15 = .ok (.getfield 25, 3) := by decide +kernel
theorem dX3_add_18 : decode cX3_add 18 = .ok (.iload_n 1, 1) := by decide +kernel
theorem dX3_add_19 : decode cX3_add 19 = .ok (.iastore, 1) := by decide +kernel
theorem dX3_add_20 : decode cX3_add 20 = .ok (.aload_n 0, 1) := by decide +kernel
theorem dX3_add_21 : decode cX3_add 21 = .ok (.dup, 1) := by decide +kernel
theorem dX3_add_22 : decode cX3_add 22 = .ok (.getfield 25, 3) := by decide +kernel
theorem dX3_add_25 : decode cX3_add 25 = .ok (.iconst 1, 1) := by decide +kernel
theorem dX3_add_26 : decode cX3_add 26 = .ok (.iadd, 1) := by decide +kernel
theorem dX3_add_27 : decode cX3_add 27 = .ok (.putfield 25, 3) := by decide +kernel
theorem dX3_add_30 : decode cX3_add 30 = .ok (.return_, 1) := by decide +kernel
theorem dX3_next_0 : decode cX3_next 0 = .ok (.aload_n 0, 1) := by decide +kernel
theorem dX3_next_1 : decode cX3_next 1 = .ok (.getfield 22, 3) := by decide +kernel
theorem dX3_next_4 : decode cX3_next 4 = .ok (.aload_n 0, 1) := by decide +kernel
theorem dX3_next_5 : decode cX3_next 5 = .ok (.getfield 15, 3) := by decide +kernel
theorem dX3_next_8 : decode cX3_next 8 = .ok (.if_icmp .ge 31, 3) := by decide +kernel
theorem dX3_next_11 : decode cX3_next 11 = .ok (.aload_n 0, 1) := by decide +kernel
theorem dX3_next_12 : decode cX3_next 12 = .ok (.getfield 11, 3) := by decide +kernel
theorem dX3_next_15 : decode cX3_next 15 = .ok (.aload_n 0, 1) := by decide +kernel
theorem dX3_next_16 : decode cX3_next 16 = .ok (.getfield 22, 3) := by decide +kernel
theorem dX3_next_19 : decode cX3_next 19 = .ok (.iaload, 1) := by decide +kernel
theorem dX3_next_20 : decode cX3_next 20 = .ok (.invokestatic 92, 3) := by decide +kernel
theorem dX3_next_23 : decode cX3_next 23 = .ok (.ifCond .eq 16, 3) := by decide +kernel
theorem dX3_next_26 : decode cX3_next 26 = .ok (.aload_n 0, 1) := by decide +kernel
theorem dX3_next_27 : decode cX3_next 27 = .ok (.dup, 1) := by decide +kernel
theorem dX3_next_28 : decode cX3_next 28 = .ok (.getfield 22, 3) := by decide +kernel
theorem dX3_next_31 : decode cX3_next 31 = .ok (.iconst 1, 1) := by decide +kernel
theorem dX3_next_32 : decode cX3_next 32 = .ok (.iadd, 1) := by decide +kernel
theorem dX3_next_33 : decode cX3_next 33 = .ok (.putfield 22, 3) := by decide +kernel
theorem dX3_next_36 : decode cX3_next 36 = .ok (.goto (-36), 3) := by decide +kernel
theorem dX3_next_39 : decode cX3_next 39 = .ok (.aload_n 0, 1) := by decide +kernel
theorem dX3_next_40 : decode cX3_next 40 = .ok (.aload_n 0, 1) := by decide +kernel
theorem dX3_next_41 : decode cX3_next 41 = .ok (.getfield 22, 3) := by decide +kernel
theorem dX3_next_44 : decode cX3_next 44 = .ok (.putfield 89, 3) := by decide +kernel
theorem dX3_next_47 : decode cX3_next 47 = .ok (.aload_n 0, 1) := by decide +kernel
theorem dX3_next_48 : decode cX3_next 48 = .ok (.getfield 22, 3) := by decide +kernel
theorem dX3_next_51 : decode cX3_next 51 = .ok (.aload_n 0, 1) := by decide +kernel
theorem dX3_next_52 : decode cX3_next 52 = .ok (.getfield 15, 3) := by decide +kernel
theorem dX3_next_55 : decode cX3_next 55 = .ok (.if_icmp .lt 11, 3) := by decide +kernel
theorem dX3_next_58 : decode cX3_next 58 = .ok (.aload_n 0, 1) := by decide +kernel
theorem dX3_next_59 : decode cX3_next 59 = .ok (.iconst 0, 1) := by decide +kernel
theorem dX3_next_60 : decode cX3_next 60 = .ok (.putfield 47, 3) := by decide +kernel
theorem dX3_next_63 : decode cX3_next 63 = .ok (.goto 89, 3) := by decide +kernel
theorem dX3_next_66 : decode cX3_next 66 = .ok (.aload_n 0, 1) := by decide +kernel
theorem dX3_next_67 : decode cX3_next 67 = .ok (.getfield 11, 3) := by decide +kernel
theorem dX3_next_70 : decode cX3_next 70 = .ok (.aload_n 0, 1) := by decide +kernel
theorem dX3_next_71 : decode cX3_next 71 = .ok (.getfield 22, 3) := by decide +kernel
theorem dX3_next_74 : decode cX3_next 74 = .ok (.iaload, 1) := by decide +kernel
theorem dX3_next_75 : decode cX3_next 75 = .ok (.invokestatic 95, 3) := by decide +kernel
theorem dX3_next_78 : decode cX3_next 78 = .ok (.ifCond .eq 10, 3) := by decide +kernel
theorem dX3_next_81 : decode cX3_next 81 = .ok (.aload_n 0, 1) := by decide +kernel
theorem dX3_next_82 : decode cX3_next 82 = .ok (.invokevirtual 98, 3) := by decide +kernel
theorem dX3_next_85 : decode cX3_next 85 = .ok (.goto 67, 3) := by decide +kernel
theorem dX3_next_88 : decode cX3_next 88 = .ok (.aload_n 0, 1) := by decide +kernel
theorem dX3_next_89 : decode cX3_next 89 = .ok (.getfield 11, 3) := by decide +kernel
theorem dX3_next_92 : decode cX3_next 92 = .ok (.aload_n 0, 1) := by decide +kernel
theorem dX3_next_93 : decode cX3_next 93 = .ok (.getfield 22, 3) := by decide +kernel
theorem dX3_next_96 : decode cX3_next 96 = .ok (.iaload, 1) := by decide +kernel
theorem dX3_next_97 : decode cX3_next 97 = .ok (.invokestatic 101, 3) := by decide +kernel
theorem dX3_next_100 : decode cX3_next 100 = .ok (.ifCond .eq 10, 3) := by decide +kernel
theorem dX3_next_103 : decode cX3_next 103 = .ok (.aload_n 0, 1) := by decide +kernel
theorem dX3_next_104 : decode cX3_next 104 = .ok (.invokevirtual 104, 3) := by decide +kernel
theorem dX3_next_107 : decode cX3_next 107 = .ok (.goto 45, 3) := by decide +kernel
theorem dX3_next_110 : decode cX3_next 110 = .ok (.aload_n 0, 1) := by decide +kernel
theorem dX3_next_111 : decode cX3_next 111 = .ok (.aload_n 0, 1) := by decide +kernel
theorem dX3_next_112 : decode cX3_next 112 = .ok (.getfield 11, 3) := by decide +kernel
theorem dX3_next_115 : decode cX3_next 115 = .ok (.aload_n 0, 1) := by decide +kernel
theorem dX3_next_116 : decode cX3_next 116 = .ok (.getfield 22, 3) := by decide +kernel
theorem dX3_next_119 : decode cX3_next 119 = .ok (.iaload, 1) := by decide +kernel
theorem dX3_next_120 : decode cX3_next 120 = .ok (.invokestatic 107, 3) := by decide +kernel
theorem dX3_next_123 : decode cX3_next 123 = .ok (.ifCond .eq 15, 3) := by decide +kernel
theorem dX3_next_126 : decode cX3_next 126 = .ok (.aload_n 0, 1) := by decide +kernel
theorem dX3_next_127 : decode cX3_next 127 = .ok (.getfield 11, 3) := by decide +kernel
theorem dX3_next_130 : decode cX3_next 130 = .ok (.aload_n 0, 1) := by decide +kernel
theorem dX3_next_131 : decode cX3_next 131 = .ok (.getfield 22, 3) := by decide +kernel
theorem dX3_next_134 : decode cX3_next 134 = .ok (.iaload, 1) := by decide +kernel
theorem dX3_next_135 : decode cX3_next 135 = .ok (.goto 4, 3) := by decide +kernel
theorem dX3_next_138 : decode cX3_next 138 = .ok (.iconst 1, 1) := by decide +kernel
theorem dX3_next_139 : decode cX3_next 139 = .ok (.putfield 47, 3) := by decide +kernel
theorem dX3_next_142 : decode cX3_next 142 = .ok (.aload_n 0, 1) := by decide +kernel
theorem dX3_next_143 : decode cX3_next 143 = .ok (.dup, 1) := by decide +kernel
theorem dX3_next_144 : decode cX3_next 144 = .ok (.getfield 22, 3) := by decide +kernel
theorem dX3_next_147 : decode cX3_next 147 = .ok (.iconst 1, 1) := by decide +kernel
theorem dX3_next_148 : decode cX3_next 148 = .ok (.iadd, 1) := by decide +kernel
theorem dX3_next_149 : decode cX3_next 149 = .ok (.putfield 22, 3) := by decide +kernel
theorem dX3_next_152 : decode cX3_next 152 = .ok (.return_, 1) := by decide +kernel
theorem dX3_readWord_0 : decode cX3_readWord 0 = .ok (.aload_n 0, 1) := by decide +kernel
theorem dX3_readWord_1 : decode cX3_readWord 1 = .ok (.getfield 22, 3) := by decide +kernel
theorem dX3_readWord_4 : decode cX3_readWord 4 = .ok (.aload_n 0, 1) := by decide +kernel
theorem dX3_readWord_5 : decode cX3_readWord 5 = .ok (.getfield 15, 3) := by decide +kernel
theorem dX3_readWord_8 : decode cX3_readWord 8 = .ok (.if_icmp .ge 31, 3) := by decide +kernel
theorem dX3_readWord_11 : decode cX3_readWord 11 = .ok (.aload_n 0, 1) := by decide +kernel
theorem dX3_readWord_12 : decode cX3_readWord 12 = .ok (.getfield 11, 3) := by decide +kernel
theorem dX3_readWord_15 : decode cX3_readWord 15 = .ok (.aload_n 0, 1) := by decide +kernel
theorem dX3_readWord_16 : decode cX3_readWord 16 = .ok (.getfield 22, 3) := by decide +kernel
theorem dX3_readWord_19 : decode cX3_readWord 19 = .ok (.iaload, 1) := by decide +kernel
theorem dX3_readWord_20 : decode cX3_readWord 20 = .ok (.invokestatic 95, 3) := by decide +kernel
theorem dX3_readWord_23 : decode cX3_readWord 23 = .ok (.ifCond .eq 16, 3) := by decide +kernel
theorem dX3_readWord_26 : decode cX3_readWord 26 = .ok (.aload_n 0, 1) := by decide +kernel
theorem dX3_readWord_27 : decode cX3_readWord 27 = .ok (.dup, 1) := by decide +kernel
theorem dX3_readWord_28 : decode cX3_readWord 28 = .ok (.getfield 22, 3) := by decide +kernel
theorem dX3_readWord_31 : decode cX3_readWord 31 = .ok (.iconst 1, 1) := by decide +kernel
theorem dX3_readWord_32 : decode cX3_readWord 32 = .ok (.iadd, 1) := by decide +kernel
theorem dX3_readWord_33 : decode cX3_readWord 33 = .ok (.putfield 22, 3) := by decide +kernel
theorem dX3_readWord_36 : decode cX3_readWord 36 = .ok (.goto (-36), 3) := by decide +kernel
theorem dX3_readWord_39 : decode cX3_readWord 39 = .ok (.aload_n 0, 1) := by decide +kernel
theorem dX3_readWord_40 : decode cX3_readWord 40 = .ok (.iconst 1, 1) := by decide +kernel
theorem dX3_readWord_41 : decode cX3_readWord 41 = .ok (.putfield 47, 3) := by decide +kernel
theorem dX3_readWord_44 : decode cX3_readWord 44 = .ok (.iconst 0, 1) := by decide +kernel
theorem dX3_readWord_45 : decode cX3_readWord 45 = .ok (.istore_n 1, 1) := by decide +kernel
theorem dX3_readWord_46 : decode cX3_readWord 46 = .ok (.iload_n 1, 1) := by decide +kernel
theorem dX3_readWord_47 : decode cX3_readWord 47 = .ok (.bipush 12, 2) := by decide +kernel
theorem dX3_readWord_49 : decode cX3_readWord 49 = .ok (.if_icmp .ge 45, 3) := by decide +kernel
theorem dX3_readWord_52 : decode cX3_readWord 52 = .ok (.aload_n 0, 1) := by decide +kernel
theorem dX3_readWord_53 : decode cX3_readWord 53 = .ok (.iload_n 1, 1) := by decide +kernel
theorem dX3_readWord_54 : decode cX3_readWord 54 = .ok (.invokestatic 110, 3) := by decide +kernel
theorem dX3_readWord_57 : decode cX3_readWord 57 = .ok (.invokevirtual 114, 3) := by decide +kernel
theorem dX3_readWord_60 : decode cX3_readWord 60 = .ok (.ifCond .eq 28, 3) := by decide +kernel
theorem dX3_readWord_63 : decode cX3_readWord 63 = .ok (.aload_n 0, 1) := by decide +kernel
theorem dX3_readWord_64 : decode cX3_readWord 64 = .ok (.iload_n 1, 1) := by decide +kernel
theorem dX3_readWord_65 : decode cX3_readWord 65 = .ok (.bipush 6, 2) := by decide +kernel
theorem dX3_readWord_67 : decode cX3_readWord 67 = .ok (.if_icmp .ge 9, 3) := by decide +kernel
theorem dX3_readWord_70 : decode cX3_readWord 70 = .ok (.iconst 5, 1) := by decide +kernel
theorem dX3_readWord_71 : decode cX3_readWord 71 = .ok (.iload_n 1, 1) := by decide +kernel
theorem dX3_readWord_72 : decode cX3_readWord 72 = .ok (.iadd, 1) := by decide +kernel
theorem dX3_readWord_73 : decode cX3_readWord 73 = .ok (.goto 4, 3) := by decide +kernel
theorem dX3_readWord_76 : decode cX3_readWord 76 = .ok (.iconst 3, 1) := by decide +kernel
theorem dX3_readWord_77 : decode cX3_readWord 77 = .ok (.putfield 47, 3) := by decide +kernel
theorem dX3_readWord_80 : decode cX3_readWord 80 = .ok (.aload_n 0, 1) := by decide +kernel
theorem dX3_readWord_81 : decode cX3_readWord 81 = .ok (.iload_n 1, 1) := by decide +kernel
theorem dX3_readWord_82 : decode cX3_readWord 82 = .ok (.bipush 6, 2) := by decide +kernel
theorem dX3_readWord_84 : decode cX3_readWord 84 = .ok (.isub, 1) := by decide +kernel
theorem dX3_readWord_85 : decode cX3_readWord 85 = .ok (.putfield 86, 3) := by decide +kernel
theorem dX3_readWord_88 : decode cX3_readWord 88 = .ok (.iinc 1 1, 3) := by decide +kernel
theorem dX3_readWord_91 : decode cX3_readWord 91 = .ok (.goto (-45), 3) := by decide +kernel
theorem dX3_readWord_94 : decode cX3_readWord 94 = .ok (.return_, 1) := by decide +kernel
theorem dX3_isSpelled_0 : decode cX3_isSpelled 0 = .ok (.aload_n 1, 1) := by decide +kernel
theorem dX3_isSpelled_1 : decode cX3_isSpelled 1 = .ok (.invokevirtual 118, 3) := by decide +kernel
theorem dX3_isSpelled_4 : decode cX3_isSpelled 4 = .ok (.aload_n 0, 1) := by decide +kernel
theorem dX3_isSpelled_5 : decode cX3_isSpelled 5 = .ok (.getfield 22, 3) := by decide +kernel
theorem dX3_isSpelled_8 : decode cX3_isSpelled 8 = .ok (.aload_n 0, 1) := by decide +kernel
theorem dX3_isSpelled_9 : decode cX3_isSpelled 9 = .ok (.getfield 89, 3) := by decide +kernel
theorem dX3_isSpelled_12 : decode cX3_isSpelled 12 = .ok (.isub, 1) := by decide +kernel
theorem dX3_isSpelled_13 : decode cX3_isSpelled 13 = .ok (.if_icmp .eq 5, 3) := by decide +kernel
theorem dX3_isSpelled_16 : decode cX3_isSpelled 16 = .ok (.iconst 0, 1) := by decide +kernel
theorem dX3_isSpelled_17 : decode cX3_isSpelled 17 = .ok (.ireturn, 1) := by decide +kernel
theorem dX3_isSpelled_18 : decode cX3_isSpelled 18 = .ok (.iconst 0, 1) := by decide +kernel
theorem dX3_isSpelled_19 : decode cX3_isSpelled 19 = .ok (.istore_n 2, 1) := by decide +kernel
theorem dX3_isSpelled_20 : decode cX3_isSpelled 20 = .ok (.iload_n 2, 1) := by decide +kernel
theorem dX3_isSpelled_21 : decode cX3_isSpelled 21 = .ok (.aload_n 1, 1) := by decide +kernel
theorem dX3_isSpelled_22 : decode cX3_isSpelled 22 = .ok (.invokevirtual 118, 3) := by decide +kernel
theorem dX3_isSpelled_25 : decode cX3_isSpelled 25 = .ok (.if_icmp .ge 30, 3) := by decide +kernel
theorem dX3_isSpelled_28 : decode cX3_isSpelled 28 = .ok (.aload_n 0, 1) := by decide +kernel
theorem dX3_isSpelled_29 : decode cX3_isSpelled 29 = .ok (.getfield 11, 3) := by decide +kernel
theorem dX3_isSpelled_32 : decode cX3_isSpelled 32 = .ok (.aload_n 0, 1) := by decide +kernel
theorem dX3_isSpelled_33 : decode cX3_isSpelled 33 = .ok (.getfield 89, 3) := by decide +kernel
theorem dX3_isSpelled_36 : decode cX3_isSpelled 36 = .ok (.iload_n 2, 1) := by decide +kernel
theorem dX3_isSpelled_37 : decode cX3_isSpelled 37 = .ok (.iadd, 1) := by decide +kernel
theorem dX3_isSpelled_38 : decode cX3_isSpelled 38 = .ok (.iaload, 1) := by decide +kernel
theorem dX3_isSpelled_39 : decode cX3_isSpelled 39 = .ok (.aload_n 1, 1) := by decide +kernel
theorem dX3_isSpelled_40 : decode cX3_isSpelled 40 = .ok (.iload_n 2, 1) := by decide +kernel
theorem dX3_isSpelled_41 : decode cX3_isSpelled 41 = .ok (.invokevirtual 124, 3) := by decide +kernel
theorem dX3_isSpelled_44 : decode cX3_isSpelled 44 = .ok (.if_icmp .eq 5, 3) := by decide +kernel
theorem dX3_isSpelled_47 : decode cX3_isSpelled 47 = .ok (.iconst 0, 1) := by decide +kernel
theorem dX3_isSpelled_48 : decode cX3_isSpelled 48 = .ok (.ireturn, 1) := by decide +kernel
theorem dX3_isSpelled_49 : decode cX3_isSpelled 49 = .ok (.iinc 2 1, 3) := by decide +kernel
theorem dX3_isSpelled_52 : decode cX3_isSpelled 52 = .ok (.goto (-32), 3) := by decide +kernel
theorem dX3_isSpelled_55 : decode cX3_isSpelled 55 = .ok (.iconst 1, 1) := by decide +kernel
theorem dX3_isSpelled_56 : decode cX3_isSpelled 56 = .ok (.ireturn, 1) := by decide +kernel
theorem dX3_spelling_0 : decode cX3_spelling 0 = .ok (.iload_n 0, 1) := by decide +kernel
theorem dX3_spelling_1 : decode cX3_spelling 1 = .ok (.tableswitch 92 0 10 #[59, 62, 65, 68, 71, 74, 77, 80, 83, 86, 89], 59) := by decide +kernel
theorem dX3_spelling_60 : decode cX3_spelling 60 = .ok (.ldc 128, 2) := by decide +kernel
theorem dX3_spelling_62 : decode cX3_spelling 62 = .ok (.areturn, 1) := by decide +kernel
theorem dX3_spelling_63 : decode cX3_spelling 63 = .ok (.ldc 130, 2) := by decide +kernel
theorem dX3_spelling_65 : decode cX3_spelling 65 = .ok (.areturn, 1) := by decide +kernel
theorem dX3_spelling_66 : decode cX3_spelling 66 = .ok (.ldc 132, 2) := by decide +kernel
theorem dX3_spelling_68 : decode cX3_spelling 68 = .ok (.areturn, 1) := by decide +kernel
theorem dX3_spelling_69 : decode cX3_spelling 69 = .ok (.ldc 134, 2) := by decide +kernel
theorem dX3_spelling_71 : decode cX3_spelling 71 = .ok (.areturn, 1) := by decide +kernel
theorem dX3_spelling_72 : decode cX3_spelling 72 = .ok (.ldc 136, 2) := by decide +kernel
theorem dX3_spelling_74 : decode cX3_spelling 74 = .ok (.areturn, 1) := by decide +kernel
theorem dX3_spelling_75 : decode cX3_spelling 75 = .ok (.ldc 138, 2) := by decide +kernel
theorem dX3_spelling_77 : decode cX3_spelling 77 = .ok (.areturn, 1) := by decide +kernel
theorem dX3_spelling_78 : decode cX3_spelling 78 = .ok (.ldc 140, 2) := by decide +kernel
theorem dX3_spelling_80 : decode cX3_spelling 80 = .ok (.areturn, 1) := by decide +kernel
theorem dX3_spelling_81 : decode cX3_spelling 81 = .ok (.ldc 142, 2) := by decide +kernel
theorem dX3_spelling_83 : decode cX3_spelling 83 = .ok (.areturn, 1) := by decide +kernel
theorem dX3_spelling_84 : decode cX3_spelling 84 = .ok (.ldc 144, 2) := by decide +kernel
theorem dX3_spelling_86 : decode cX3_spelling 86 = .ok (.areturn, 1) := by decide +kernel
theorem dX3_spelling_87 : decode cX3_spelling 87 = .ok (.ldc 146, 2) := by decide +kernel
theorem dX3_spelling_89 : decode cX3_spelling 89 = .ok (.areturn, 1) := by decide +kernel
theorem dX3_spelling_90 : decode cX3_spelling 90 = .ok (.ldc 148, 2) := by decide +kernel
theorem dX3_spelling_92 : decode cX3_spelling 92 = .ok (.areturn, 1) := by decide +kernel
theorem dX3_spelling_93 : decode cX3_spelling 93 = .ok (.ldc 150, 2) := by decide +kernel
theorem dX3_spelling_95 : decode cX3_spelling 95 = .ok (.areturn, 1) := by decide +kernel
theorem dX3_readNumeral_0 : decode cX3_readNumeral 0 = .ok (.iconst 0, 1) := by decide +kernel
theorem dX3_readNumeral_1 : decode cX3_readNumeral 1 = .ok (.istore_n 1, 1) := by decide +kernel
theorem dX3_readNumeral_2 : decode cX3_readNumeral 2 = .ok (.aload_n 0, 1) := by decide +kernel
theorem dX3_readNumeral_3 : decode cX3_readNumeral 3 = .ok (.getfield 22, 3) := by decide +kernel
theorem dX3_readNumeral_6 : decode cX3_readNumeral 6 = .ok (.aload_n 0, 1) := by decide +kernel
theorem dX3_readNumeral_7 : decode cX3_readNumeral 7 = .ok (.getfield 15, 3) := by decide +kernel
theorem dX3_readNumeral_10 : decode cX3_readNumeral 10 = .ok (.if_icmp .ge 49, 3) := by decide +kernel
theorem dX3_readNumeral_13 : decode cX3_readNumeral 13 = .ok (.aload_n 0, 1) := by decide +kernel
theorem dX3_readNumeral_14 : decode cX3_readNumeral 14 = .ok (.getfield 11, 3) := by decide +kernel
theorem dX3_readNumeral_17 : decode cX3_readNumeral 17 = .ok (.aload_n 0, 1) := by decide +kernel
theorem dX3_readNumeral_18 : decode cX3_readNumeral 18 = .ok (.getfield 22, 3) := by decide +kernel
theorem dX3_readNumeral_21 : decode cX3_readNumeral 21 = .ok (.iaload, 1) := by decide +kernel
theorem dX3_readNumeral_22 : decode cX3_readNumeral 22 = .ok (.invokestatic 101, 3) := by decide +kernel
theorem dX3_readNumeral_25 : decode cX3_readNumeral 25 = .ok (.ifCond .eq 34, 3) := by decide +kernel
theorem dX3_readNumeral_28 : decode cX3_readNumeral 28 = .ok (.iload_n 1, 1) := by decide +kernel
theorem dX3_readNumeral_29 : decode cX3_readNumeral 29 = .ok (.bipush 10, 2) := by decide +kernel
theorem dX3_readNumeral_31 : decode cX3_readNumeral 31 = .ok (.imul, 1) := by decide +kernel
theorem dX3_readNumeral_32 : decode cX3_readNumeral 32 = .ok (.aload_n 0, 1) := by decide +kernel
theorem dX3_readNumeral_33 : decode cX3_readNumeral 33 = .ok (.getfield 11, 3) := by decide +kernel
theorem dX3_readNumeral_36 : decode cX3_readNumeral 36 = .ok (.aload_n 0, 1) := by decide +kernel
theorem dX3_readNumeral_37 : decode cX3_readNumeral 37 = .ok (.getfield 22, 3) := by decide +kernel
theorem dX3_readNumeral_40 : decode cX3_readNumeral 40 = .ok (.iaload, 1) := by decide +kernel
theorem dX3_readNumeral_41 : decode cX3_readNumeral 41 = .ok (.bipush 48, 2) := by decide +kernel
theorem dX3_readNumeral_43 : decode cX3_readNumeral 43 = .ok (.isub, 1) := by decide +kernel
theorem dX3_readNumeral_44 : decode cX3_readNumeral 44 = .ok (.iadd, 1) := by decide +kernel
theorem dX3_readNumeral_45 : decode cX3_readNumeral 45 = .ok (.istore_n 1, 1) := by decide +kernel
theorem dX3_readNumeral_46 : decode cX3_readNumeral 46 = .ok (.aload_n 0, 1) := by decide +kernel
theorem dX3_readNumeral_47 : decode cX3_readNumeral 47 = .ok (.dup, 1) := by decide +kernel
theorem dX3_readNumeral_48 : decode cX3_readNumeral 48 = .ok (.getfield 22, 3) := by decide +kernel
theorem dX3_readNumeral_51 : decode cX3_readNumeral 51 = .ok (.iconst 1, 1) := by decide +kernel
theorem dX3_readNumeral_52 : decode cX3_readNumeral 52 = .ok (.iadd, 1) := by decide +kernel
theorem dX3_readNumeral_53 : decode cX3_readNumeral 53 = .ok (.putfield 22, 3) := by decide +kernel
theorem dX3_readNumeral_56 : decode cX3_readNumeral 56 = .ok (.goto (-54), 3) := by decide +kernel
theorem dX3_readNumeral_59 : decode cX3_readNumeral 59 = .ok (.aload_n 0, 1) := by decide +kernel
theorem dX3_readNumeral_60 : decode cX3_readNumeral 60 = .ok (.aload_n 0, 1) := by decide +kernel
theorem dX3_readNumeral_61 : decode cX3_readNumeral 61 = .ok (.getfield 22, 3) := by decide +kernel
theorem dX3_readNumeral_64 : decode cX3_readNumeral 64 = .ok (.aload_n 0, 1) := by decide +kernel
theorem dX3_readNumeral_65 : decode cX3_readNumeral 65 = .ok (.getfield 89, 3) := by decide +kernel
theorem dX3_readNumeral_68 : decode cX3_readNumeral 68 = .ok (.isub, 1) := by decide +kernel
theorem dX3_readNumeral_69 : decode cX3_readNumeral 69 = .ok (.iconst 4, 1) := by decide +kernel
theorem dX3_readNumeral_70 : decode cX3_readNumeral 70 = .ok (.if_icmp .le 7, 3) := by decide +kernel
theorem dX3_readNumeral_73 : decode cX3_readNumeral 73 = .ok (.iconst 1, 1) := by decide +kernel
theorem dX3_readNumeral_74 : decode cX3_readNumeral 74 = .ok (.goto 4, 3) := by decide +kernel
theorem dX3_readNumeral_77 : decode cX3_readNumeral 77 = .ok (.iconst 2, 1) := by decide +kernel
theorem dX3_readNumeral_78 : decode cX3_readNumeral 78 = .ok (.putfield 47, 3) := by decide +kernel
theorem dX3_readNumeral_81 : decode cX3_readNumeral 81 = .ok (.aload_n 0, 1) := by decide +kernel
theorem dX3_readNumeral_82 : decode cX3_readNumeral 82 = .ok (.iload_n 1, 1) := by decide +kernel
theorem dX3_readNumeral_83 : decode cX3_readNumeral 83 = .ok (.putfield 86, 3) := by decide +kernel
theorem dX3_readNumeral_86 : decode cX3_readNumeral 86 = .ok (.return_, 1) := by decide +kernel
theorem dX3_isBlank_0 : decode cX3_isBlank 0 = .ok (.iload_n 0, 1) := by decide +kernel
theorem dX3_isBlank_1 : decode cX3_isBlank 1 = .ok (.bipush 32, 2) := by decide +kernel
theorem dX3_isBlank_3 : decode cX3_isBlank 3 = .ok (.if_icmp .eq 9, 3) := by decide +kernel
theorem dX3_isBlank_6 : decode cX3_isBlank 6 = .ok (.iload_n 0, 1) := by decide +kernel
theorem dX3_isBlank_7 : decode cX3_isBlank 7 = .ok (.bipush 10, 2) := by decide +kernel
theorem dX3_isBlank_9 : decode cX3_isBlank 9 = .ok (.if_icmp .ne 7, 3) := by decide +kernel
theorem dX3_isBlank_12 : decode cX3_isBlank 12 = .ok (.iconst 1, 1) := by decide +kernel
theorem dX3_isBlank_13 : decode cX3_isBlank 13 = .ok (.goto 4, 3) := by decide +kernel
theorem dX3_isBlank_16 : decode cX3_isBlank 16 = .ok (.iconst 0, 1) := by decide +kernel
theorem dX3_isBlank_17 : decode cX3_isBlank 17 = .ok (.ireturn, 1) := by decide +kernel
theorem dX3_isSmallLetter_0 : decode cX3_isSmallLetter 0 = .ok (.iload_n 0, 1) := by decide +kernel
theorem dX3_isSmallLetter_1 : decode cX3_isSmallLetter 1 = .ok (.bipush 97, 2) := by decide +kernel
theorem dX3_isSmallLetter_3 : decode cX3_isSmallLetter 3 = .ok (.if_icmp .lt 13, 3) := by decide +kernel
theorem dX3_isSmallLetter_6 : decode cX3_isSmallLetter 6 = .ok (.iload_n 0, 1) := by decide +kernel
theorem dX3_isSmallLetter_7 : decode cX3_isSmallLetter 7 = .ok (.bipush 122, 2) := by decide +kernel
theorem dX3_isSmallLetter_9 : decode cX3_isSmallLetter 9 = .ok (.if_icmp .gt 7, 3) := by decide +kernel
theorem dX3_isSmallLetter_12 : decode cX3_isSmallLetter 12 = .ok (.iconst 1, 1) := by decide +kernel
theorem dX3_isSmallLetter_13 : decode cX3_isSmallLetter 13 = .ok (.goto 4, 3) := by decide +kernel
theorem dX3_isSmallLetter_16 : decode cX3_isSmallLetter 16 = .ok (.iconst 0, 1) := by decide +kernel
theorem dX3_isSmallLetter_17 : decode cX3_isSmallLetter 17 = .ok (.ireturn, 1) := by decide +kernel
theorem dX3_isDigit_0 : decode cX3_isDigit 0 = .ok (.iload_n 0, 1) := by decide +kernel
theorem dX3_isDigit_1 : decode cX3_isDigit 1 = .ok (.bipush 48, 2) := by decide +kernel
theorem dX3_isDigit_3 : decode cX3_isDigit 3 = .ok (.if_icmp .lt 13, 3) := by decide +kernel
theorem dX3_isDigit_6 : decode cX3_isDigit 6 = .ok (.iload_n 0, 1) := by decide +kernel
theorem dX3_isDigit_7 : decode cX3_isDigit 7 = .ok (.bipush 57, 2) := by decide +kernel
theorem dX3_isDigit_9 : decode cX3_isDigit 9 = .ok (.if_icmp .gt 7, 3) := by decide +kernel
theorem dX3_isDigit_12 : decode cX3_isDigit 12 = .ok (.iconst 1, 1) := by decide +kernel
theorem dX3_isDigit_13 : decode cX3_isDigit 13 = .ok (.goto 4, 3) := by decide +kernel
theorem dX3_isDigit_16 : decode cX3_isDigit 16 = .ok (.iconst 0, 1) := by decide +kernel
theorem dX3_isDigit_17 : decode cX3_isDigit 17 = .ok (.ireturn, 1) := by decide +kernel
theorem dX3_isSign_0 : decode cX3_isSign 0 = .ok (.iload_n 0, 1) := by decide +kernel
theorem dX3_isSign_1 : decode cX3_isSign 1 = .ok (.tableswitch 105 40 61 #[103, 103, 103, 103, 105, 103, 105, 105, 105, 105, 105, 105, 105, 105, 105, 105, 105, 105, 105, 103, 103, 103], 103) := by decide +kernel
theorem dX3_isSign_104 : decode cX3_isSign 104 = .ok (.iconst 1, 1) := by decide +kernel
theorem dX3_isSign_105 : decode cX3_isSign 105 = .ok (.ireturn, 1) := by decide +kernel
theorem dX3_isSign_106 : decode cX3_isSign 106 = .ok (.iconst 0, 1) := by decide +kernel
theorem dX3_isSign_107 : decode cX3_isSign 107 = .ok (.ireturn, 1) := by decide +kernel
theorem dX4_init_0 : decode cX4_init 0 = .ok (.aload_n 0, 1) := by decide +kernel
theorem dX4_init_1 : decode cX4_init 1 = .ok (.invokespecial 1, 3) := by decide +kernel
theorem dX4_init_4 : decode cX4_init 4 = .ok (.aload_n 0, 1) := by decide +kernel
theorem dX4_init_5 : decode cX4_init 5 = .ok (.aload_n 1, 1) := by decide +kernel
theorem dX4_init_6 : decode cX4_init 6 = .ok (.putfield 7, 3) := by decide +kernel
theorem dX4_init_9 : decode cX4_init 9 = .ok (.aload_n 0, 1) := by decide +kernel
theorem dX4_init_10 : decode cX4_init 10 = .ok (.iload_n 2, 1) := by decide +kernel
theorem dX4_init_11 : decode cX4_init 11 = .ok (.putfield 13, 3) := by decide +kernel
theorem dX4_init_14 : decode cX4_init 14 = .ok (.aload_n 0, 1) := by decide +kernel
theorem dX4_init_15 : decode cX4_init 15 = .ok (.iload_n 3, 1) := by decide +kernel
theorem dX4_init_16 : decode cX4_init 16 = .ok (.putfield 17, 3) := by decide +kernel
theorem dX4_init_19 : decode cX4_init 19 = .ok (.aload_n 0, 1) := by decide +kernel
theorem dX4_init_20 : decode cX4_init 20 = .ok (.aload_n 1, 1) := by decide +kernel
theorem dX4_init_21 : decode cX4_init 21 = .ok (.arraylength, 1) := by decide +kernel
theorem dX4_init_22 : decode cX4_init 22 = .ok (.newarray .int, 2) := by decide +kernel
theorem dX4_init_24 : decode cX4_init 24 = .ok (.putfield 20, 3) := by decide +kernel
theorem dX4_init_27 : decode cX4_init 27 = .ok (.return_, 1) := by decide +kernel
theorem dX4_tell_0 : decode cX4_tell 0 = .ok (.iload_n 1, 1) := by decide +kernel
theorem dX4_tell_1 : decode cX4_tell 1 = .ok (.ifCond .ne 7, 3) := by decide +kernel
theorem dX4_tell_4 : decode cX4_tell 4 = .ok (.iconst 0, 1) := by decide +kernel
theorem dX4_tell_5 : decode cX4_tell 5 = .ok (.goto 19, 3) := by decide +kernel
theorem dX4_tell_8 : decode cX4_tell 8 = .ok (.iload_n 1, 1) := by decide +kernel
theorem dX4_tell_9 : decode cX4_tell 9 = .ok (.iconst 1, 1) := by decide +kernel
theorem dX4_tell_10 : decode cX4_tell 10 = .ok (.if_icmp .ne 10, 3) := by decide +kernel
theorem dX4_tell_13 : decode cX4_tell 13 = .ok (.aload_n 0, 1) := by decide +kernel
theorem dX4_tell_14 : decode cX4_tell 14 = .ok (.getfield 13, 3) := by decide +kernel
theorem dX4_tell_17 : decode cX4_tell 17 = .ok (.goto 7, 3) := by decide +kernel
theorem dX4_tell_20 : decode cX4_tell 20 = .ok (.aload_n 0, 1) := by decide +kernel
theorem dX4_tell_21 : decode cX4_tell 21 = .ok (.getfield 17, 3) := by decide +kernel
theorem dX4_tell_24 : decode cX4_tell 24 = .ok (.istore_n 3, 1) := by decide +kernel
theorem dX4_tell_25 : decode cX4_tell 25 = .ok (.iload_n 1, 1) := by decide +kernel
theorem dX4_tell_26 : decode cX4_tell 26 = .ok (.ifCond .ne 10, 3) := by decide +kernel
theorem dX4_tell_29 : decode cX4_tell 29 = .ok (.aload_n 0, 1) := by decide +kernel
theorem dX4_tell_30 : decode cX4_tell 30 = .ok (.getfield 13, 3) := by decide +kernel
theorem dX4_tell_33 : decode cX4_tell 33 = .ok (.goto 20, 3) := by decide +kernel
theorem dX4_tell_36 : decode cX4_tell 36 = .ok (.iload_n 1, 1) := by decide +kernel
theorem dX4_tell_37 : decode cX4_tell 37 = .ok (.iconst 1, 1) := by decide +kernel
theorem dX4_tell_38 : decode cX4_tell 38 = .ok (.if_icmp .ne 10, 3) := by decide +kernel
theorem dX4_tell_41 : decode cX4_tell 41 = .ok (.aload_n 0, 1) := by decide +kernel
