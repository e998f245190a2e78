theorem dX7_tables_92 : decode cX7_tables 92 = .ok (.invokevirtual 210, 3) := by decide +kernel
theorem dX7_tables_95 : decode cX7_tables 95 = .ok (.ifCond .eq 13, 3) := by decide +kernel
theorem dX7_tables_98 : decode cX7_tables 98 = .ok (.aload_n 0, 1) := by decide +kernel
theorem dX7_tables_99 : decode cX7_tables 99 = .ok (.getfield 32, 3) := by decide +kernel
theorem dX7_tables_102 : decode cX7_tables 102 = .ok (.invokevirtual 204, 3) := by decide +kernel
theorem dX7_tables_105 : decode cX7_tables 105 = .ok (.goto 4, 3) := by decide +kernel
theorem dX7_tables_108 : decode cX7_tables 108 = .ok (.iconst 0, 1) := by decide +kernel
theorem dX7_tables_109 : decode cX7_tables 109 = .ok (.ireturn, 1) := by decide +kernel
theorem dX7_tables_110 : decode cX7_tables 110 = .ok (.aload_n 0, 1) := by decide +kernel
theorem dX7_tables_111 : decode cX7_tables 111 = .ok (.invokevirtual 210, 3) := by decide +kernel
theorem dX7_tables_114 : decode cX7_tables 114 = .ok (.ifCond .eq 21, 3) := by decide +kernel
theorem dX7_tables_117 : decode cX7_tables 117 = .ok (.aload_n 0, 1) := by decide +kernel
theorem dX7_tables_118 : decode cX7_tables 118 = .ok (.getfield 10, 3) := by decide +kernel
theorem dX7_tables_121 : decode cX7_tables 121 = .ok (.invokevirtual 176, 3) := by decide +kernel
theorem dX7_tables_124 : decode cX7_tables 124 = .ok (.aload_n 0, 1) := by decide +kernel
theorem dX7_tables_125 : decode cX7_tables 125 = .ok (.getfield 32, 3) := by decide +kernel
theorem dX7_tables_128 : decode cX7_tables 128 = .ok (.getfield 207, 3) := by decide +kernel
theorem dX7_tables_131 : decode cX7_tables 131 = .ok (.isub, 1) := by decide +kernel
theorem dX7_tables_132 : decode cX7_tables 132 = .ok (.goto 4, 3) := by decide +kernel
theorem dX7_tables_135 : decode cX7_tables 135 = .ok (.iconst (-1), 1) := by decide +kernel
theorem dX7_tables_136 : decode cX7_tables 136 = .ok (.ireturn, 1) := by decide +kernel
theorem dX7_tables_137 : decode cX7_tables 137 = .ok (.bipush (-2), 2) := by decide +kernel
theorem dX7_tables_139 : decode cX7_tables 139 = .ok (.ireturn, 1) := by decide +kernel
theorem dX7_lawfulTables_0 : decode cX7_lawfulTables 0 = .ok (.aload_n 0, 1) := by decide +kernel
theorem dX7_lawfulTables_1 : decode cX7_lawfulTables 1 = .ok (.getfield 32, 3) := by decide +kernel
theorem dX7_lawfulTables_4 : decode cX7_lawfulTables 4 = .ok (.aload_n 1, 1) := by decide +kernel
theorem dX7_lawfulTables_5 : decode cX7_lawfulTables 5 = .ok (.aload_n 1, 1) := by decide +kernel
theorem dX7_lawfulTables_6 : decode cX7_lawfulTables 6 = .ok (.invokevirtual 121, 3) := by decide +kernel
theorem dX7_lawfulTables_9 : decode cX7_lawfulTables 9 = .ok (.iconst (-1), 1) := by decide +kernel
theorem dX7_lawfulTables_10 : decode cX7_lawfulTables 10 = .ok (.invokevirtual 192, 3) := by decide +kernel
theorem dX7_lawfulTables_13 : decode cX7_lawfulTables 13 = .ok (.aload_n 0, 1) := by decide +kernel
theorem dX7_lawfulTables_14 : decode cX7_lawfulTables 14 = .ok (.getfield 32, 3) := by decide +kernel
theorem dX7_lawfulTables_17 : decode cX7_lawfulTables 17 = .ok (.ldc 216, 2) := by decide +kernel
theorem dX7_lawfulTables_19 : decode cX7_lawfulTables 19 = .ok (.invokevirtual 217, 3) := by decide +kernel
theorem dX7_lawfulTables_22 : decode cX7_lawfulTables 22 = .ok (.ireturn, 1) := by decide +kernel
theorem dX7_isAnyTable_0 : decode cX7_isAnyTable 0 = .ok (.aload_n 0, 1) := by decide +kernel
theorem dX7_isAnyTable_1 : decode cX7_isAnyTable 1 = .ok (.getfield 32, 3) := by decide +kernel
theorem dX7_isAnyTable_4 : decode cX7_isAnyTable 4 = .ok (.aload_n 1, 1) := by decide +kernel
theorem dX7_isAnyTable_5 : decode cX7_isAnyTable 5 = .ok (.iload_n 2, 1) := by decide +kernel
theorem dX7_isAnyTable_6 : decode cX7_isAnyTable 6 = .ok (.iload_n 3, 1) := by decide +kernel
theorem dX7_isAnyTable_7 : decode cX7_isAnyTable 7 = .ok (.invokevirtual 192, 3) := by decide +kernel
theorem dX7_isAnyTable_10 : decode cX7_isAnyTable 10 = .ok (.aload_n 0, 1) := by decide +kernel
theorem dX7_isAnyTable_11 : decode cX7_isAnyTable 11 = .ok (.getfield 32, 3) := by decide +kernel
theorem dX7_isAnyTable_14 : decode cX7_isAnyTable 14 = .ok (.iconst 1, 1) := by decide +kernel
theorem dX7_isAnyTable_15 : decode cX7_isAnyTable 15 = .ok (.invokevirtual 217, 3) := by decide +kernel
theorem dX7_isAnyTable_18 : decode cX7_isAnyTable 18 = .ok (.ifCond .le 7, 3) := by decide +kernel
theorem dX7_isAnyTable_21 : decode cX7_isAnyTable 21 = .ok (.iconst 1, 1) := by decide +kernel
theorem dX7_isAnyTable_22 : decode cX7_isAnyTable 22 = .ok (.goto 4, 3) := by decide +kernel
theorem dX7_isAnyTable_25 : decode cX7_isAnyTable 25 = .ok (.iconst 0, 1) := by decide +kernel
theorem dX7_isAnyTable_26 : decode cX7_isAnyTable 26 = .ok (.ireturn, 1) := by decide +kernel
theorem dX7_isGladdest_0 : decode cX7_isGladdest 0 = .ok (.aload_n 0, 1) := by decide +kernel
theorem dX7_isGladdest_1 : decode cX7_isGladdest 1 = .ok (.getfield 32, 3) := by decide +kernel
theorem dX7_isGladdest_4 : decode cX7_isGladdest 4 = .ok (.aload_n 1, 1) := by decide +kernel
theorem dX7_isGladdest_5 : decode cX7_isGladdest 5 = .ok (.aload_n 1, 1) := by decide +kernel
theorem dX7_isGladdest_6 : decode cX7_isGladdest 6 = .ok (.invokevirtual 121, 3) := by decide +kernel
theorem dX7_isGladdest_9 : decode cX7_isGladdest 9 = .ok (.iconst (-1), 1) := by decide +kernel
theorem dX7_isGladdest_10 : decode cX7_isGladdest 10 = .ok (.invokevirtual 192, 3) := by decide +kernel
theorem dX7_isGladdest_13 : decode cX7_isGladdest 13 = .ok (.aload_n 0, 1) := by decide +kernel
theorem dX7_isGladdest_14 : decode cX7_isGladdest 14 = .ok (.getfield 32, 3) := by decide +kernel
theorem dX7_isGladdest_17 : decode cX7_isGladdest 17 = .ok (.aload_n 0, 1) := by decide +kernel
theorem dX7_isGladdest_18 : decode cX7_isGladdest 18 = .ok (.getfield 25, 3) := by decide +kernel
theorem dX7_isGladdest_21 : decode cX7_isGladdest 21 = .ok (.aload_n 1, 1) := by decide +kernel
theorem dX7_isGladdest_22 : decode cX7_isGladdest 22 = .ok (.iconst 0, 1) := by decide +kernel
theorem dX7_isGladdest_23 : decode cX7_isGladdest 23 = .ok (.invokevirtual 220, 3) := by decide +kernel
theorem dX7_isGladdest_26 : decode cX7_isGladdest 26 = .ok (.aload_n 0, 1) := by decide +kernel
theorem dX7_isGladdest_27 : decode cX7_isGladdest 27 = .ok (.getfield 32, 3) := by decide +kernel
theorem dX7_isGladdest_30 : decode cX7_isGladdest 30 = .ok (.invokevirtual 224, 3) := by decide +kernel
theorem dX7_isGladdest_33 : decode cX7_isGladdest 33 = .ok (.ireturn, 1) := by decide +kernel
theorem dX7_isClearest_0 : decode cX7_isClearest 0 = .ok (.aload_n 0, 1) := by decide +kernel
theorem dX7_isClearest_1 : decode cX7_isClearest 1 = .ok (.getfield 19, 3) := by decide +kernel
theorem dX7_isClearest_4 : decode cX7_isClearest 4 = .ok (.aload_n 0, 1) := by decide +kernel
theorem dX7_isClearest_5 : decode cX7_isClearest 5 = .ok (.getfield 10, 3) := by decide +kernel
theorem dX7_isClearest_8 : decode cX7_isClearest 8 = .ok (.invokevirtual 168, 3) := by decide +kernel
theorem dX7_isClearest_11 : decode cX7_isClearest 11 = .ok (.aload_n 0, 1) := by decide +kernel
theorem dX7_isClearest_12 : decode cX7_isClearest 12 = .ok (.getfield 32, 3) := by decide +kernel
theorem dX7_isClearest_15 : decode cX7_isClearest 15 = .ok (.aload_n 0, 1) := by decide +kernel
theorem dX7_isClearest_16 : decode cX7_isClearest 16 = .ok (.getfield 19, 3) := by decide +kernel
theorem dX7_isClearest_19 : decode cX7_isClearest 19 = .ok (.aload_n 0, 1) := by decide +kernel
theorem dX7_isClearest_20 : decode cX7_isClearest 20 = .ok (.getfield 19, 3) := by decide +kernel
theorem dX7_isClearest_23 : decode cX7_isClearest 23 = .ok (.invokevirtual 121, 3) := by decide +kernel
theorem dX7_isClearest_26 : decode cX7_isClearest 26 = .ok (.iconst (-1), 1) := by decide +kernel
theorem dX7_isClearest_27 : decode cX7_isClearest 27 = .ok (.invokevirtual 192, 3) := by decide +kernel
theorem dX7_isClearest_30 : decode cX7_isClearest 30 = .ok (.aload_n 0, 1) := by decide +kernel
theorem dX7_isClearest_31 : decode cX7_isClearest 31 = .ok (.getfield 32, 3) := by decide +kernel
theorem dX7_isClearest_34 : decode cX7_isClearest 34 = .ok (.aload_n 0, 1) := by decide +kernel
theorem dX7_isClearest_35 : decode cX7_isClearest 35 = .ok (.getfield 25, 3) := by decide +kernel
theorem dX7_isClearest_38 : decode cX7_isClearest 38 = .ok (.aload_n 0, 1) := by decide +kernel
theorem dX7_isClearest_39 : decode cX7_isClearest 39 = .ok (.getfield 19, 3) := by decide +kernel
theorem dX7_isClearest_42 : decode cX7_isClearest 42 = .ok (.iconst 1, 1) := by decide +kernel
theorem dX7_isClearest_43 : decode cX7_isClearest 43 = .ok (.invokevirtual 220, 3) := by decide +kernel
theorem dX7_isClearest_46 : decode cX7_isClearest 46 = .ok (.aload_n 0, 1) := by decide +kernel
theorem dX7_isClearest_47 : decode cX7_isClearest 47 = .ok (.getfield 32, 3) := by decide +kernel
theorem dX7_isClearest_50 : decode cX7_isClearest 50 = .ok (.invokevirtual 224, 3) := by decide +kernel
theorem dX7_isClearest_53 : decode cX7_isClearest 53 = .ok (.ireturn, 1) := by decide +kernel
theorem dX7_bars_0 : decode cX7_bars 0 = .ok (.aload_n 0, 1) := by decide +kernel
theorem dX7_bars_1 : decode cX7_bars 1 = .ok (.aload_n 0, 1) := by decide +kernel
theorem dX7_bars_2 : decode cX7_bars 2 = .ok (.getfield 10, 3) := by decide +kernel
theorem dX7_bars_5 : decode cX7_bars 5 = .ok (.aload_n 0, 1) := by decide +kernel
theorem dX7_bars_6 : decode cX7_bars 6 = .ok (.getfield 10, 3) := by decide +kernel
theorem dX7_bars_9 : decode cX7_bars 9 = .ok (.invokevirtual 121, 3) := by decide +kernel
theorem dX7_bars_12 : decode cX7_bars 12 = .ok (.iconst (-1), 1) := by decide +kernel
theorem dX7_bars_13 : decode cX7_bars 13 = .ok (.invokevirtual 227, 3) := by decide +kernel
theorem dX7_bars_16 : decode cX7_bars 16 = .ok (.ifCond .eq 5, 3) := by decide +kernel
theorem dX7_bars_19 : decode cX7_bars 19 = .ok (.iconst (-1), 1) := by decide +kernel
theorem dX7_bars_20 : decode cX7_bars 20 = .ok (.ireturn, 1) := by decide +kernel
theorem dX7_bars_21 : decode cX7_bars 21 = .ok (.iconst 0, 1) := by decide +kernel
theorem dX7_bars_22 : decode cX7_bars 22 = .ok (.istore_n 1, 1) := by decide +kernel
theorem dX7_bars_23 : decode cX7_bars 23 = .ok (.iload_n 1, 1) := by decide +kernel
theorem dX7_bars_24 : decode cX7_bars 24 = .ok (.aload_n 0, 1) := by decide +kernel
theorem dX7_bars_25 : decode cX7_bars 25 = .ok (.getfield 10, 3) := by decide +kernel
theorem dX7_bars_28 : decode cX7_bars 28 = .ok (.getfield 98, 3) := by decide +kernel
theorem dX7_bars_31 : decode cX7_bars 31 = .ok (.if_icmp .ge 30, 3) := by decide +kernel
theorem dX7_bars_34 : decode cX7_bars 34 = .ok (.aload_n 0, 1) := by decide +kernel
theorem dX7_bars_35 : decode cX7_bars 35 = .ok (.aload_n 0, 1) := by decide +kernel
theorem dX7_bars_36 : decode cX7_bars 36 = .ok (.getfield 10, 3) := by decide +kernel
theorem dX7_bars_39 : decode cX7_bars 39 = .ok (.aload_n 0, 1) := by decide +kernel
theorem dX7_bars_40 : decode cX7_bars 40 = .ok (.getfield 10, 3) := by decide +kernel
theorem dX7_bars_43 : decode cX7_bars 43 = .ok (.invokevirtual 121, 3) := by decide +kernel
theorem dX7_bars_46 : decode cX7_bars 46 = .ok (.iload_n 1, 1) := by decide +kernel
theorem dX7_bars_47 : decode cX7_bars 47 = .ok (.invokevirtual 227, 3) := by decide +kernel
theorem dX7_bars_50 : decode cX7_bars 50 = .ok (.ifCond .eq 5, 3) := by decide +kernel
theorem dX7_bars_53 : decode cX7_bars 53 = .ok (.iload_n 1, 1) := by decide +kernel
theorem dX7_bars_54 : decode cX7_bars 54 = .ok (.ireturn, 1) := by decide +kernel
theorem dX7_bars_55 : decode cX7_bars 55 = .ok (.iinc 1 1, 3) := by decide +kernel
theorem dX7_bars_58 : decode cX7_bars 58 = .ok (.goto (-35), 3) := by decide +kernel
theorem dX7_bars_61 : decode cX7_bars 61 = .ok (.iconst (-1), 1) := by decide +kernel
theorem dX7_bars_62 : decode cX7_bars 62 = .ok (.ireturn, 1) := by decide +kernel
theorem dX7_borrow_0 : decode cX7_borrow 0 = .ok (.aload_n 0, 1) := by decide +kernel
theorem dX7_borrow_1 : decode cX7_borrow 1 = .ok (.getfield 10, 3) := by decide +kernel
theorem dX7_borrow_4 : decode cX7_borrow 4 = .ok (.iload_n 1, 1) := by decide +kernel
theorem dX7_borrow_5 : decode cX7_borrow 5 = .ok (.iload_n 2, 1) := by decide +kernel
theorem dX7_borrow_6 : decode cX7_borrow 6 = .ok (.invokevirtual 104, 3) := by decide +kernel
theorem dX7_borrow_9 : decode cX7_borrow 9 = .ok (.ifCond .ne 6, 3) := by decide +kernel
theorem dX7_borrow_12 : decode cX7_borrow 12 = .ok (.bipush (-2), 2) := by decide +kernel
theorem dX7_borrow_14 : decode cX7_borrow 14 = .ok (.ireturn, 1) := by decide +kernel
theorem dX7_borrow_15 : decode cX7_borrow 15 = .ok (.iconst 1, 1) := by decide +kernel
theorem dX7_borrow_16 : decode cX7_borrow 16 = .ok (.istore_n 3, 1) := by decide +kernel
theorem dX7_borrow_17 : decode cX7_borrow 17 = .ok (.iconst 0, 1) := by decide +kernel
theorem dX7_borrow_18 : decode cX7_borrow 18 = .ok (.istore 4, 2) := by decide +kernel
theorem dX7_borrow_20 : decode cX7_borrow 20 = .ok (.iload 4, 2) := by decide +kernel
theorem dX7_borrow_22 : decode cX7_borrow 22 = .ok (.aload_n 0, 1) := by decide +kernel
theorem dX7_borrow_23 : decode cX7_borrow 23 = .ok (.getfield 10, 3) := by decide +kernel
theorem dX7_borrow_26 : decode cX7_borrow 26 = .ok (.getfield 98, 3) := by decide +kernel
theorem dX7_borrow_29 : decode cX7_borrow 29 = .ok (.if_icmp .ge 52, 3) := by decide +kernel
theorem dX7_borrow_32 : decode cX7_borrow 32 = .ok (.iload 4, 2) := by decide +kernel
theorem dX7_borrow_34 : decode cX7_borrow 34 = .ok (.iload_n 1, 1) := by decide +kernel
theorem dX7_borrow_35 : decode cX7_borrow 35 = .ok (.if_icmp .eq 40, 3) := by decide +kernel
theorem dX7_borrow_38 : decode cX7_borrow 38 = .ok (.iload 4, 2) := by decide +kernel
theorem dX7_borrow_40 : decode cX7_borrow 40 = .ok (.iload_n 2, 1) := by decide +kernel
theorem dX7_borrow_41 : decode cX7_borrow 41 = .ok (.if_icmp .eq 34, 3) := by decide +kernel
theorem dX7_borrow_44 : decode cX7_borrow 44 = .ok (.aload_n 0, 1) := by decide +kernel
theorem dX7_borrow_45 : decode cX7_borrow 45 = .ok (.getfield 10, 3) := by decide +kernel
theorem dX7_borrow_48 : decode cX7_borrow 48 = .ok (.iload_n 1, 1) := by decide +kernel
theorem dX7_borrow_49 : decode cX7_borrow 49 = .ok (.iload 4, 2) := by decide +kernel
theorem dX7_borrow_51 : decode cX7_borrow 51 = .ok (.invokevirtual 108, 3) := by decide +kernel
theorem dX7_borrow_54 : decode cX7_borrow 54 = .ok (.iload 4, 2) := by decide +kernel
theorem dX7_borrow_56 : decode cX7_borrow 56 = .ok (.iload_n 2, 1) := by decide +kernel
theorem dX7_borrow_57 : decode cX7_borrow 57 = .ok (.if_icmp .ge 7, 3) := by decide +kernel
theorem dX7_borrow_60 : decode cX7_borrow 60 = .ok (.iconst 1, 1) := by decide +kernel
theorem dX7_borrow_61 : decode cX7_borrow 61 = .ok (.goto 4, 3) := by decide +kernel
theorem dX7_borrow_64 : decode cX7_borrow 64 = .ok (.iconst 0, 1) := by decide +kernel
theorem dX7_borrow_65 : decode cX7_borrow 65 = .ok (.iadd, 1) := by decide +kernel
theorem dX7_borrow_66 : decode cX7_borrow 66 = .ok (.istore 5, 2) := by decide +kernel
theorem dX7_borrow_68 : decode cX7_borrow 68 = .ok (.iload_n 3, 1) := by decide +kernel
theorem dX7_borrow_69 : decode cX7_borrow 69 = .ok (.iload 5, 2) := by decide +kernel
theorem dX7_borrow_71 : decode cX7_borrow 71 = .ok (.invokestatic 231, 3) := by decide +kernel
theorem dX7_borrow_74 : decode cX7_borrow 74 = .ok (.istore_n 3, 1) := by decide +kernel
theorem dX7_borrow_75 : decode cX7_borrow 75 = .ok (.iinc 4 1, 3) := by decide +kernel
theorem dX7_borrow_78 : decode cX7_borrow 78 = .ok (.goto (-58), 3) := by decide +kernel
theorem dX7_borrow_81 : decode cX7_borrow 81 = .ok (.iload_n 3, 1) := by decide +kernel
theorem dX7_borrow_82 : decode cX7_borrow 82 = .ok (.sipush 999, 3) := by decide +kernel
theorem dX7_borrow_85 : decode cX7_borrow 85 = .ok (.if_icmp .le 7, 3) := by decide +kernel
theorem dX7_borrow_88 : decode cX7_borrow 88 = .ok (.iconst (-1), 1) := by decide +kernel
theorem dX7_borrow_89 : decode cX7_borrow 89 = .ok (.goto 18, 3) := by decide +kernel
theorem dX7_borrow_92 : decode cX7_borrow 92 = .ok (.iconst 0, 1) := by decide +kernel
theorem dX7_borrow_93 : decode cX7_borrow 93 = .ok (.iload_n 3, 1) := by decide +kernel
theorem dX7_borrow_94 : decode cX7_borrow 94 = .ok (.aload_n 0, 1) := by decide +kernel
theorem dX7_borrow_95 : decode cX7_borrow 95 = .ok (.getfield 10, 3) := by decide +kernel
theorem dX7_borrow_98 : decode cX7_borrow 98 = .ok (.iload_n 1, 1) := by decide +kernel
theorem dX7_borrow_99 : decode cX7_borrow 99 = .ok (.iload_n 2, 1) := by decide +kernel
theorem dX7_borrow_100 : decode cX7_borrow 100 = .ok (.invokevirtual 108, 3) := by decide +kernel
theorem dX7_borrow_103 : decode cX7_borrow 103 = .ok (.isub, 1) := by decide +kernel
theorem dX7_borrow_104 : decode cX7_borrow 104 = .ok (.invokestatic 231, 3) := by decide +kernel
theorem dX7_borrow_107 : decode cX7_borrow 107 = .ok (.ireturn, 1) := by decide +kernel
theorem dX7_company_0 : decode cX7_company 0 = .ok (.iload_n 1, 1) := by decide +kernel
theorem dX7_company_1 : decode cX7_company 1 = .ok (.iconst 0, 1) := by decide +kernel
theorem dX7_company_2 : decode cX7_company 2 = .ok (.iconst 1, 1) := by decide +kernel
theorem dX7_company_3 : decode cX7_company 3 = .ok (.invokestatic 72, 3) := by decide +kernel
theorem dX7_company_6 : decode cX7_company 6 = .ok (.ifCond .ne 6, 3) := by decide +kernel
theorem dX7_company_9 : decode cX7_company 9 = .ok (.bipush (-2), 2) := by decide +kernel
theorem dX7_company_11 : decode cX7_company 11 = .ok (.ireturn, 1) := by decide +kernel
theorem dX7_company_12 : decode cX7_company 12 = .ok (.aload_n 0, 1) := by decide +kernel
theorem dX7_company_13 : decode cX7_company 13 = .ok (.invokevirtual 236, 3) := by decide +kernel
theorem dX7_company_16 : decode cX7_company 16 = .ok (.istore_n 2, 1) := by decide +kernel
theorem dX7_company_17 : decode cX7_company 17 = .ok (.iload_n 1, 1) := by decide +kernel
theorem dX7_company_18 : decode cX7_company 18 = .ok (.ifCond .ne 7, 3) := by decide +kernel
theorem dX7_company_21 : decode cX7_company 21 = .ok (.iload_n 2, 1) := by decide +kernel
theorem dX7_company_22 : decode cX7_company 22 = .ok (.goto 7, 3) := by decide +kernel
theorem dX7_company_25 : decode cX7_company 25 = .ok (.iload_n 2, 1) := by decide +kernel
theorem dX7_company_26 : decode cX7_company 26 = .ok (.invokestatic 239, 3) := by decide +kernel
theorem dX7_company_29 : decode cX7_company 29 = .ok (.ireturn, 1) := by decide +kernel
theorem dX7_largestCompany_0 : decode cX7_largestCompany 0 = .ok (.aload_n 0, 1) := by decide +kernel
theorem dX7_largestCompany_1 : decode cX7_largestCompany 1 = .ok (.getfield 10, 3) := by decide +kernel
theorem dX7_largestCompany_4 : decode cX7_largestCompany 4 = .ok (.getfield 98, 3) := by decide +kernel
theorem dX7_largestCompany_7 : decode cX7_largestCompany 7 = .ok (.istore_n 1, 1) := by decide +kernel
theorem dX7_largestCompany_8 : decode cX7_largestCompany 8 = .ok (.iload_n 1, 1) := by decide +kernel
theorem dX7_largestCompany_9 : decode cX7_largestCompany 9 = .ok (.ifCond .le 51, 3) := by decide +kernel
theorem dX7_largestCompany_12 : decode cX7_largestCompany 12 = .ok (.iconst 1, 1) := by decide +kernel
theorem dX7_largestCompany_13 : decode cX7_largestCompany 13 = .ok (.istore_n 2, 1) := by decide +kernel
theorem dX7_largestCompany_14 : decode cX7_largestCompany 14 = .ok (.iload_n 2, 1) := by decide +kernel
theorem dX7_largestCompany_15 : decode cX7_largestCompany 15 = .ok (.aload_n 0, 1) := by decide +kernel
theorem dX7_largestCompany_16 : decode cX7_largestCompany 16 = .ok (.getfield 10, 3) := by decide +kernel
theorem dX7_largestCompany_19 : decode cX7_largestCompany 19 = .ok (.invokevirtual 121, 3) := by decide +kernel
theorem dX7_largestCompany_22 : decode cX7_largestCompany 22 = .ok (.if_icmp .gt 32, 3) := by decide +kernel
theorem dX7_largestCompany_25 : decode cX7_largestCompany 25 = .ok (.iload_n 2, 1) := by decide +kernel
theorem dX7_largestCompany_26 : decode cX7_largestCompany 26 = .ok (.invokestatic 239, 3) := by decide +kernel
theorem dX7_largestCompany_29 : decode cX7_largestCompany 29 = .ok (.iload_n 1, 1) := by decide +kernel
theorem dX7_largestCompany_30 : decode cX7_largestCompany 30 = .ok (.if_icmp .ne 18, 3) := by decide +kernel
theorem dX7_largestCompany_33 : decode cX7_largestCompany 33 = .ok (.aload_n 0, 1) := by decide +kernel
theorem dX7_largestCompany_34 : decode cX7_largestCompany 34 = .ok (.aload_n 0, 1) := by decide +kernel
theorem dX7_largestCompany_35 : decode cX7_largestCompany 35 = .ok (.getfield 10, 3) := by decide +kernel
theorem dX7_largestCompany_38 : decode cX7_largestCompany 38 = .ok (.iload_n 2, 1) := by decide +kernel
theorem dX7_largestCompany_39 : decode cX7_largestCompany 39 = .ok (.iconst (-1), 1) := by decide +kernel
theorem dX7_largestCompany_40 : decode cX7_largestCompany 40 = .ok (.invokevirtual 227, 3) := by decide +kernel
theorem dX7_largestCompany_43 : decode cX7_largestCompany 43 = .ok (.ifCond .eq 5, 3) := by decide +kernel
theorem dX7_largestCompany_46 : decode cX7_largestCompany 46 = .ok (.iload_n 2, 1) := by decide +kernel
theorem dX7_largestCompany_47 : decode cX7_largestCompany 47 = .ok (.ireturn, 1) := by decide +kernel
theorem dX7_largestCompany_48 : decode cX7_largestCompany 48 = .ok (.iinc 2 1, 3) := by decide +kernel
theorem dX7_largestCompany_51 : decode cX7_largestCompany 51 = .ok (.goto (-37), 3) := by decide +kernel
theorem dX7_largestCompany_54 : decode cX7_largestCompany 54 = .ok (.iinc 1 (-1), 3) := by decide +kernel
theorem dX7_largestCompany_57 : decode cX7_largestCompany 57 = .ok (.goto (-49), 3) := by decide +kernel
theorem dX7_largestCompany_60 : decode cX7_largestCompany 60 = .ok (.iconst 0, 1) := by decide +kernel
theorem dX7_largestCompany_61 : decode cX7_largestCompany 61 = .ok (.ireturn, 1) := by decide +kernel
theorem dX7_run_0 : decode cX7_run 0 = .ok (.iload_n 1, 1) := by decide +kernel
theorem dX7_run_1 : decode cX7_run 1 = .ok (.iconst 0, 1) := by decide +kernel
theorem dX7_run_2 : decode cX7_run 2 = .ok (.bipush 20, 2) := by decide +kernel
theorem dX7_run_4 : decode cX7_run 4 = .ok (.invokestatic 72, 3) := by decide +kernel
theorem dX7_run_7 : decode cX7_run 7 = .ok (.ifCond .eq 12, 3) := by decide +kernel
theorem dX7_run_10 : decode cX7_run 10 = .ok (.iload_n 2, 1) := by decide +kernel
theorem dX7_run_11 : decode cX7_run 11 = .ok (.iconst 0, 1) := by decide +kernel
theorem dX7_run_12 : decode cX7_run 12 = .ok (.iconst 2, 1) := by decide +kernel
theorem dX7_run_13 : decode cX7_run 13 = .ok (.invokestatic 72, 3) := by decide +kernel
theorem dX7_run_16 : decode cX7_run 16 = .ok (.ifCond .ne 6, 3) := by decide +kernel
theorem dX7_run_19 : decode cX7_run 19 = .ok (.bipush (-2), 2) := by decide +kernel
theorem dX7_run_21 : decode cX7_run 21 = .ok (.ireturn, 1) := by decide +kernel
theorem dX7_run_22 : decode cX7_run 22 = .ok (.aload_n 0, 1) := by decide +kernel
theorem dX7_run_23 : decode cX7_run 23 = .ok (.getfield 19, 3) := by decide +kernel
theorem dX7_run_26 : decode cX7_run 26 = .ok (.aload_n 0, 1) := by decide +kernel
theorem dX7_run_27 : decode cX7_run 27 = .ok (.getfield 10, 3) := by decide +kernel
theorem dX7_run_30 : decode cX7_run 30 = .ok (.invokevirtual 168, 3) := by decide +kernel
theorem dX7_run_33 : decode cX7_run 33 = .ok (.iconst 0, 1) := by decide +kernel
theorem dX7_run_34 : decode cX7_run 34 = .ok (.istore_n 3, 1) := by decide +kernel
theorem dX7_run_35 : decode cX7_run 35 = .ok (.iload_n 3, 1) := by decide +kernel
theorem dX7_run_36 : decode cX7_run 36 = .ok (.iload_n 1, 1) := by decide +kernel
theorem dX7_run_37 : decode cX7_run 37 = .ok (.if_icmp .ge 42, 3) := by decide +kernel
theorem dX7_run_40 : decode cX7_run 40 = .ok (.aload_n 0, 1) := by decide +kernel
theorem dX7_run_41 : decode cX7_run 41 = .ok (.aload_n 0, 1) := by decide +kernel
theorem dX7_run_42 : decode cX7_run 42 = .ok (.getfield 19, 3) := by decide +kernel
theorem dX7_run_45 : decode cX7_run 45 = .ok (.invokevirtual 200, 3) := by decide +kernel
theorem dX7_run_48 : decode cX7_run 48 = .ok (.ifCond .eq 31, 3) := by decide +kernel
theorem dX7_run_51 : decode cX7_run 51 = .ok (.aload_n 0, 1) := by decide +kernel
theorem dX7_run_52 : decode cX7_run 52 = .ok (.getfield 32, 3) := by decide +kernel
theorem dX7_run_55 : decode cX7_run 55 = .ok (.invokevirtual 242, 3) := by decide +kernel
theorem dX7_run_58 : decode cX7_run 58 = .ok (.aload_n 0, 1) := by decide +kernel
theorem dX7_run_59 : decode cX7_run 59 = .ok (.getfield 32, 3) := by decide +kernel
theorem dX7_run_62 : decode cX7_run 62 = .ok (.aload_n 0, 1) := by decide +kernel
theorem dX7_run_63 : decode cX7_run 63 = .ok (.getfield 25, 3) := by decide +kernel
theorem dX7_run_66 : decode cX7_run 66 = .ok (.aload_n 0, 1) := by decide +kernel
theorem dX7_run_67 : decode cX7_run 67 = .ok (.getfield 19, 3) := by decide +kernel
theorem dX7_run_70 : decode cX7_run 70 = .ok (.invokevirtual 172, 3) := by decide +kernel
theorem dX7_run_73 : decode cX7_run 73 = .ok (.iinc 3 1, 3) := by decide +kernel
theorem dX7_run_76 : decode cX7_run 76 = .ok (.goto (-41), 3) := by decide +kernel
theorem dX7_run_79 : decode cX7_run 79 = .ok (.iload_n 2, 1) := by decide +kernel
theorem dX7_run_80 : decode cX7_run 80 = .ok (.ifCond .ne 5, 3) := by decide +kernel
theorem dX7_run_83 : decode cX7_run 83 = .ok (.iload_n 3, 1) := by decide +kernel
theorem dX7_run_84 : decode cX7_run 84 = .ok (.ireturn, 1) := by decide +kernel
theorem dX7_run_85 : decode cX7_run 85 = .ok (.iload_n 2, 1) := by decide +kernel
theorem dX7_run_86 : decode cX7_run 86 = .ok (.iconst 1, 1) := by decide +kernel
theorem dX7_run_87 : decode cX7_run 87 = .ok (.if_icmp .ne 13, 3) := by decide +kernel
theorem dX7_run_90 : decode cX7_run 90 = .ok (.aload_n 0, 1) := by decide +kernel
theorem dX7_run_91 : decode cX7_run 91 = .ok (.getfield 19, 3) := by decide +kernel
theorem dX7_run_94 : decode cX7_run 94 = .ok (.invokevirtual 176, 3) := by decide +kernel
theorem dX7_run_97 : decode cX7_run 97 = .ok (.goto 10, 3) := by decide +kernel
theorem dX7_run_100 : decode cX7_run 100 = .ok (.aload_n 0, 1) := by decide +kernel
theorem dX7_run_101 : decode cX7_run 101 = .ok (.getfield 19, 3) := by decide +kernel
theorem dX7_run_104 : decode cX7_run 104 = .ok (.invokevirtual 245, 3) := by decide +kernel
theorem dX7_run_107 : decode cX7_run 107 = .ok (.ireturn, 1) := by decide +kernel
theorem dX7_tells_0 : decode cX7_tells 0 = .ok (.iload_n 1, 1) := by decide +kernel
theorem dX7_tells_1 : decode cX7_tells 1 = .ok (.invokestatic 153, 3) := by decide +kernel
theorem dX7_tells_4 : decode cX7_tells 4 = .ok (.ifCond .eq 23, 3) := by decide +kernel
theorem dX7_tells_7 : decode cX7_tells 7 = .ok (.aload_n 0, 1) := by decide +kernel
theorem dX7_tells_8 : decode cX7_tells 8 = .ok (.getfield 10, 3) := by decide +kernel
theorem dX7_tells_11 : decode cX7_tells 11 = .ok (.iload_n 2, 1) := by decide +kernel
theorem dX7_tells_12 : decode cX7_tells 12 = .ok (.invokevirtual 82, 3) := by decide +kernel
theorem dX7_tells_15 : decode cX7_tells 15 = .ok (.ifCond .eq 12, 3) := by decide +kernel
theorem dX7_tells_18 : decode cX7_tells 18 = .ok (.aload_n 0, 1) := by decide +kernel
theorem dX7_tells_19 : decode cX7_tells 19 = .ok (.iload_n 2, 1) := by decide +kernel
theorem dX7_tells_20 : decode cX7_tells 20 = .ok (.iload_n 3, 1) := by decide +kernel
theorem dX7_tells_21 : decode cX7_tells 21 = .ok (.invokevirtual 248, 3) := by decide +kernel
theorem dX7_tells_24 : decode cX7_tells 24 = .ok (.ifCond .ne 6, 3) := by decide +kernel
theorem dX7_tells_27 : decode cX7_tells 27 = .ok (.bipush (-2), 2) := by decide +kernel
theorem dX7_tells_29 : decode cX7_tells 29 = .ok (.ireturn, 1) := by decide +kernel
theorem dX7_tells_30 : decode cX7_tells 30 = .ok (.aload_n 0, 1) := by decide +kernel
theorem dX7_tells_31 : decode cX7_tells 31 = .ok (.getfield 45, 3) := by decide +kernel
theorem dX7_tells_34 : decode cX7_tells 34 = .ok (.iload_n 1, 1) := by decide +kernel
theorem dX7_tells_35 : decode cX7_tells 35 = .ok (.aaload, 1) := by decide +kernel
theorem dX7_tells_36 : decode cX7_tells 36 = .ok (.getfield 179, 3) := by decide +kernel
theorem dX7_tells_39 : decode cX7_tells 39 = .ok (.iconst (-1), 1) := by decide +kernel
theorem dX7_tells_40 : decode cX7_tells 40 = .ok (.if_icmp .ne 6, 3) := by decide +kernel
theorem dX7_tells_43 : decode cX7_tells 43 = .ok (.bipush (-11), 2) := by decide +kernel
theorem dX7_tells_45 : decode cX7_tells 45 = .ok (.ireturn, 1) := by decide +kernel
theorem dX7_tells_46 : decode cX7_tells 46 = .ok (.aload_n 0, 1) := by decide +kernel
theorem dX7_tells_47 : decode cX7_tells 47 = .ok (.aload_n 0, 1) := by decide +kernel
theorem dX7_tells_48 : decode cX7_tells 48 = .ok (.getfield 45, 3) := by decide +kernel
theorem dX7_tells_51 : decode cX7_tells 51 = .ok (.iload_n 1, 1) := by decide +kernel
theorem dX7_tells_52 : decode cX7_tells 52 = .ok (.aaload, 1) := by decide +kernel
theorem dX7_tells_53 : decode cX7_tells 53 = .ok (.invokevirtual 156, 3) := by decide +kernel
theorem dX7_tells_56 : decode cX7_tells 56 = .ok (.ifCond .eq 20, 3) := by decide +kernel
theorem dX7_tells_59 : decode cX7_tells 59 = .ok (.aload_n 0, 1) := by decide +kernel
theorem dX7_tells_60 : decode cX7_tells 60 = .ok (.getfield 32, 3) := by decide +kernel
theorem dX7_tells_63 : decode cX7_tells 63 = .ok (.getfield 251, 3) := by decide +kernel
theorem dX7_tells_66 : decode cX7_tells 66 = .ok (.aload_n 0, 1) := by decide +kernel
theorem dX7_tells_67 : decode cX7_tells 67 = .ok (.getfield 10, 3) := by decide +kernel
theorem dX7_tells_70 : decode cX7_tells 70 = .ok (.getfield 98, 3) := by decide +kernel
theorem dX7_tells_73 : decode cX7_tells 73 = .ok (.if_icmp .eq 6, 3) := by decide +kernel
theorem dX7_tells_76 : decode cX7_tells 76 = .ok (.bipush (-2), 2) := by decide +kernel
theorem dX7_tells_78 : decode cX7_tells 78 = .ok (.ireturn, 1) := by decide +kernel
theorem dX7_tells_79 : decode cX7_tells 79 = .ok (.iload_n 3, 1) := by decide +kernel
theorem dX7_tells_80 : decode cX7_tells 80 = .ok (.ifCond .ne 11, 3) := by decide +kernel
theorem dX7_tells_83 : decode cX7_tells 83 = .ok (.aload_n 0, 1) := by decide +kernel
theorem dX7_tells_84 : decode cX7_tells 84 = .ok (.getfield 32, 3) := by decide +kernel
theorem dX7_tells_87 : decode cX7_tells 87 = .ok (.invokevirtual 161, 3) := by decide +kernel
theorem dX7_tells_90 : decode cX7_tells 90 = .ok (.ireturn, 1) := by decide +kernel
theorem dX7_tells_91 : decode cX7_tells 91 = .ok (.aload_n 0, 1) := by decide +kernel
theorem dX7_tells_92 : decode cX7_tells 92 = .ok (.getfield 19, 3) := by decide +kernel
theorem dX7_tells_95 : decode cX7_tells 95 = .ok (.aload_n 0, 1) := by decide +kernel
theorem dX7_tells_96 : decode cX7_tells 96 = .ok (.getfield 10, 3) := by decide +kernel
theorem dX7_tells_99 : decode cX7_tells 99 = .ok (.invokevirtual 168, 3) := by decide +kernel
theorem dX7_tells_102 : decode cX7_tells 102 = .ok (.iload_n 3, 1) := by decide +kernel
theorem dX7_tells_103 : decode cX7_tells 103 = .ok (.iconst 1, 1) := by decide +kernel
theorem dX7_tells_104 : decode cX7_tells 104 = .ok (.if_icmp .ne 9, 3) := by decide +kernel
theorem dX7_tells_107 : decode cX7_tells 107 = .ok (.aload_n 0, 1) := by decide +kernel
theorem dX7_tells_108 : decode cX7_tells 108 = .ok (.iload_n 2, 1) := by decide +kernel
theorem dX7_tells_109 : decode cX7_tells 109 = .ok (.invokevirtual 252, 3) := by decide +kernel
theorem dX7_tells_112 : decode cX7_tells 112 = .ok (.ireturn, 1) := by decide +kernel
theorem dX7_tells_113 : decode cX7_tells 113 = .ok (.iload_n 3, 1) := by decide +kernel
theorem dX7_tells_114 : decode cX7_tells 114 = .ok (.iconst 2, 1) := by decide +kernel
theorem dX7_tells_115 : decode cX7_tells 115 = .ok (.if_icmp .ne 9, 3) := by decide +kernel
theorem dX7_tells_118 : decode cX7_tells 118 = .ok (.aload_n 0, 1) := by decide +kernel
theorem dX7_tells_119 : decode cX7_tells 119 = .ok (.iload_n 2, 1) := by decide +kernel
theorem dX7_tells_120 : decode cX7_tells 120 = .ok (.invokevirtual 255, 3) := by decide +kernel
theorem dX7_tells_123 : decode cX7_tells 123 = .ok (.ireturn, 1) := by decide +kernel
theorem dX7_tells_124 : decode cX7_tells 124 = .ok (.iload_n 3, 1) := by decide +kernel
theorem dX7_tells_125 : decode cX7_tells 125 = .ok (.bipush 20, 2) := by decide +kernel
theorem dX7_tells_127 : decode cX7_tells 127 = .ok (.if_icmp .ge 15, 3) := by decide +kernel
theorem dX7_tells_130 : decode cX7_tells 130 = .ok (.aload_n 0, 1) := by decide +kernel
theorem dX7_tells_131 : decode cX7_tells 131 = .ok (.iload_n 2, 1) := by decide +kernel
theorem dX7_tells_132 : decode cX7_tells 132 = .ok (.iload_n 3, 1) := by decide +kernel
theorem dX7_tells_133 : decode cX7_tells 133 = .ok (.bipush 10, 2) := by decide +kernel
theorem dX7_tells_135 : decode cX7_tells 135 = .ok (.isub, 1) := by decide +kernel
theorem dX7_tells_136 : decode cX7_tells 136 = .ok (.invokevirtual 258, 3) := by decide +kernel
theorem dX7_tells_139 : decode cX7_tells 139 = .ok (.goto 12, 3) := by decide +kernel
theorem dX7_tells_142 : decode cX7_tells 142 = .ok (.aload_n 0, 1) := by decide +kernel
theorem dX7_tells_143 : decode cX7_tells 143 = .ok (.iload_n 2, 1) := by decide +kernel
theorem dX7_tells_144 : decode cX7_tells 144 = .ok (.iload_n 3, 1) := by decide +kernel
theorem dX7_tells_145 : decode cX7_tells 145 = .ok (.bipush 20, 2) := by decide +kernel
theorem dX7_tells_147 : decode cX7_tells 147 = .ok (.isub, 1) := by decide +kernel
theorem dX7_tells_148 : decode cX7_tells 148 = .ok (.invokevirtual 261, 3) := by decide +kernel
theorem dX7_tells_151 : decode cX7_tells 151 = .ok (.ireturn, 1) := by decide +kernel
theorem dX7_isTellable_0 : decode cX7_isTellable 0 = .ok (.iload_n 2, 1) := by decide +kernel
theorem dX7_isTellable_1 : decode cX7_isTellable 1 = .ok (.iconst 0, 1) := by decide +kernel
theorem dX7_isTellable_2 : decode cX7_isTellable 2 = .ok (.iconst 2, 1) := by decide +kernel
theorem dX7_isTellable_3 : decode cX7_isTellable 3 = .ok (.invokestatic 72, 3) := by decide +kernel
theorem dX7_isTellable_6 : decode cX7_isTellable 6 = .ok (.ifCond .eq 5, 3) := by decide +kernel
theorem dX7_isTellable_9 : decode cX7_isTellable 9 = .ok (.iconst 1, 1) := by decide +kernel
theorem dX7_isTellable_10 : decode cX7_isTellable 10 = .ok (.ireturn, 1) := by decide +kernel
theorem dX7_isTellable_11 : decode cX7_isTellable 11 = .ok (.iload_n 2, 1) := by decide +kernel
theorem dX7_isTellable_12 : decode cX7_isTellable 12 = .ok (.bipush 10, 2) := by decide +kernel
theorem dX7_isTellable_14 : decode cX7_isTellable 14 = .ok (.bipush 29, 2) := by decide +kernel
theorem dX7_isTellable_16 : decode cX7_isTellable 16 = .ok (.invokestatic 72, 3) := by decide +kernel
theorem dX7_isTellable_19 : decode cX7_isTellable 19 = .ok (.ifCond .eq 22, 3) := by decide +kernel
theorem dX7_isTellable_22 : decode cX7_isTellable 22 = .ok (.aload_n 0, 1) := by decide +kernel
theorem dX7_isTellable_23 : decode cX7_isTellable 23 = .ok (.getfield 10, 3) := by decide +kernel
theorem dX7_isTellable_26 : decode cX7_isTellable 26 = .ok (.iload_n 1, 1) := by decide +kernel
theorem dX7_isTellable_27 : decode cX7_isTellable 27 = .ok (.iload_n 2, 1) := by decide +kernel
theorem dX7_isTellable_28 : decode cX7_isTellable 28 = .ok (.bipush 10, 2) := by decide +kernel
theorem dX7_isTellable_30 : decode cX7_isTellable 30 = .ok (.irem, 1) := by decide +kernel
theorem dX7_isTellable_31 : decode cX7_isTellable 31 = .ok (.invokevirtual 104, 3) := by decide +kernel
theorem dX7_isTellable_34 : decode cX7_isTellable 34 = .ok (.ifCond .eq 7, 3) := by decide +kernel
theorem dX7_isTellable_37 : decode cX7_isTellable 37 = .ok (.iconst 1, 1) := by decide +kernel
theorem dX7_isTellable_38 : decode cX7_isTellable 38 = .ok (.goto 4, 3) := by decide +kernel
theorem dX7_isTellable_41 : decode cX7_isTellable 41 = .ok (.iconst 0, 1) := by decide +kernel
theorem dX7_isTellable_42 : decode cX7_isTellable 42 = .ok (.ireturn, 1) := by decide +kernel
theorem dX7_fittingKinds_0 : decode cX7_fittingKinds 0 = .ok (.iconst 0, 1) := by decide +kernel
theorem dX7_fittingKinds_1 : decode cX7_fittingKinds 1 = .ok (.istore_n 2, 1) := by decide +kernel
theorem dX7_fittingKinds_2 : decode cX7_fittingKinds 2 = .ok (.iconst 0, 1) := by decide +kernel
theorem dX7_fittingKinds_3 : decode cX7_fittingKinds 3 = .ok (.istore_n 3, 1) := by decide +kernel
theorem dX7_fittingKinds_4 : decode cX7_fittingKinds 4 = .ok (.iload_n 3, 1) := by decide +kernel
theorem dX7_fittingKinds_5 : decode cX7_fittingKinds 5 = .ok (.bipush 6, 2) := by decide +kernel
theorem dX7_fittingKinds_7 : decode cX7_fittingKinds 7 = .ok (.if_icmp .ge 37, 3) := by decide +kernel
theorem dX7_fittingKinds_10 : decode cX7_fittingKinds 10 = .ok (.aload_n 0, 1) := by decide +kernel
theorem dX7_fittingKinds_11 : decode cX7_fittingKinds 11 = .ok (.getfield 19, 3) := by decide +kernel
theorem dX7_fittingKinds_14 : decode cX7_fittingKinds 14 = .ok (.getfield 118, 3) := by decide +kernel
theorem dX7_fittingKinds_17 : decode cX7_fittingKinds 17 = .ok (.iload_n 1, 1) := by decide +kernel
theorem dX7_fittingKinds_18 : decode cX7_fittingKinds 18 = .ok (.iload_n 3, 1) := by decide +kernel
theorem dX7_fittingKinds_19 : decode cX7_fittingKinds 19 = .ok (.iastore, 1) := by decide +kernel
theorem dX7_fittingKinds_20 : decode cX7_fittingKinds 20 = .ok (.iload_n 2, 1) := by decide +kernel
theorem dX7_fittingKinds_21 : decode cX7_fittingKinds 21 = .ok (.aload_n 0, 1) := by decide +kernel
theorem dX7_fittingKinds_22 : decode cX7_fittingKinds 22 = .ok (.iload_n 1, 1) := by decide +kernel
theorem dX7_fittingKinds_23 : decode cX7_fittingKinds 23 = .ok (.invokevirtual 264, 3) := by decide +kernel
theorem dX7_fittingKinds_26 : decode cX7_fittingKinds 26 = .ok (.ifCond .eq 9, 3) := by decide +kernel
theorem dX7_fittingKinds_29 : decode cX7_fittingKinds 29 = .ok (.iconst 1, 1) := by decide +kernel
theorem dX7_fittingKinds_30 : decode cX7_fittingKinds 30 = .ok (.iload_n 3, 1) := by decide +kernel
theorem dX7_fittingKinds_31 : decode cX7_fittingKinds 31 = .ok (.ishl, 1) := by decide +kernel
theorem dX7_fittingKinds_32 : decode cX7_fittingKinds 32 = .ok (.goto 4, 3) := by decide +kernel
theorem dX7_fittingKinds_35 : decode cX7_fittingKinds 35 = .ok (.iconst 0, 1) := by decide +kernel
theorem dX7_fittingKinds_36 : decode cX7_fittingKinds 36 = .ok (.ior, 1) := by decide +kernel
theorem dX7_fittingKinds_37 : decode cX7_fittingKinds 37 = .ok (.istore_n 2, 1) := by decide +kernel
theorem dX7_fittingKinds_38 : decode cX7_fittingKinds 38 = .ok (.iinc 3 1, 3) := by decide +kernel
theorem dX7_fittingKinds_41 : decode cX7_fittingKinds 41 = .ok (.goto (-37), 3) := by decide +kernel
theorem dX7_fittingKinds_44 : decode cX7_fittingKinds 44 = .ok (.iload_n 2, 1) := by decide +kernel
theorem dX7_fittingKinds_45 : decode cX7_fittingKinds 45 = .ok (.ireturn, 1) := by decide +kernel
theorem dX7_fittingNumbers_0 : decode cX7_fittingNumbers 0 = .ok (.iconst 0, 1) := by decide +kernel
theorem dX7_fittingNumbers_1 : decode cX7_fittingNumbers 1 = .ok (.istore_n 2, 1) := by decide +kernel
theorem dX7_fittingNumbers_2 : decode cX7_fittingNumbers 2 = .ok (.iconst 0, 1) := by decide +kernel
theorem dX7_fittingNumbers_3 : decode cX7_fittingNumbers 3 = .ok (.istore_n 3, 1) := by decide +kernel
theorem dX7_fittingNumbers_4 : decode cX7_fittingNumbers 4 = .ok (.iload_n 3, 1) := by decide +kernel
theorem dX7_fittingNumbers_5 : decode cX7_fittingNumbers 5 = .ok (.bipush 9, 2) := by decide +kernel
theorem dX7_fittingNumbers_7 : decode cX7_fittingNumbers 7 = .ok (.if_icmp .gt 37, 3) := by decide +kernel
theorem dX7_fittingNumbers_10 : decode cX7_fittingNumbers 10 = .ok (.aload_n 0, 1) := by decide +kernel
theorem dX7_fittingNumbers_11 : decode cX7_fittingNumbers 11 = .ok (.getfield 19, 3) := by decide +kernel
theorem dX7_fittingNumbers_14 : decode cX7_fittingNumbers 14 = .ok (.getfield 86, 3) := by decide +kernel
theorem dX7_fittingNumbers_17 : decode cX7_fittingNumbers 17 = .ok (.iload_n 1, 1) := by decide +kernel
theorem dX7_fittingNumbers_18 : decode cX7_fittingNumbers 18 = .ok (.iload_n 3, 1) := by decide +kernel
theorem dX7_fittingNumbers_19 : decode cX7_fittingNumbers 19 = .ok (.iastore, 1) := by decide +kernel
theorem dX7_fittingNumbers_20 : decode cX7_fittingNumbers 20 = .ok (.iload_n 2, 1) := by decide +kernel
theorem dX7_fittingNumbers_21 : decode cX7_fittingNumbers 21 = .ok (.aload_n 0, 1) := by decide +kernel
theorem dX7_fittingNumbers_22 : decode cX7_fittingNumbers 22 = .ok (.iload_n 1, 1) := by decide +kernel
theorem dX7_fittingNumbers_23 : decode cX7_fittingNumbers 23 = .ok (.invokevirtual 264, 3) := by decide +kernel
theorem dX7_fittingNumbers_26 : decode cX7_fittingNumbers 26 = .ok (.ifCond .eq 9, 3) := by decide +kernel
theorem dX7_fittingNumbers_29 : decode cX7_fittingNumbers 29 = .ok (.iconst 1, 1) := by decide +kernel
theorem dX7_fittingNumbers_30 : decode cX7_fittingNumbers 30 = .ok (.iload_n 3, 1) := by decide +kernel
theorem dX7_fittingNumbers_31 : decode cX7_fittingNumbers 31 = .ok (.ishl, 1) := by decide +kernel
theorem dX7_fittingNumbers_32 : decode cX7_fittingNumbers 32 = .ok (.goto 4, 3) := by decide +kernel
theorem dX7_fittingNumbers_35 : decode cX7_fittingNumbers 35 = .ok (.iconst 0, 1) := by decide +kernel
theorem dX7_fittingNumbers_36 : decode cX7_fittingNumbers 36 = .ok (.ior, 1) := by decide +kernel
theorem dX7_fittingNumbers_37 : decode cX7_fittingNumbers 37 = .ok (.istore_n 2, 1) := by decide +kernel
theorem dX7_fittingNumbers_38 : decode cX7_fittingNumbers 38 = .ok (.iinc 3 1, 3) := by decide +kernel
theorem dX7_fittingNumbers_41 : decode cX7_fittingNumbers 41 = .ok (.goto (-37), 3) := by decide +kernel
theorem dX7_fittingNumbers_44 : decode cX7_fittingNumbers 44 = .ok (.iload_n 2, 1) := by decide +kernel
theorem dX7_fittingNumbers_45 : decode cX7_fittingNumbers 45 = .ok (.ireturn, 1) := by decide +kernel
theorem dX7_fittingDebts_0 : decode cX7_fittingDebts 0 = .ok (.iconst 0, 1) := by decide +kernel
theorem dX7_fittingDebts_1 : decode cX7_fittingDebts 1 = .ok (.istore_n 3, 1) := by decide +kernel
theorem dX7_fittingDebts_2 : decode cX7_fittingDebts 2 = .ok (.iconst 0, 1) := by decide +kernel
theorem dX7_fittingDebts_3 : decode cX7_fittingDebts 3 = .ok (.istore 4, 2) := by decide +kernel
theorem dX7_fittingDebts_5 : decode cX7_fittingDebts 5 = .ok (.iload 4, 2) := by decide +kernel
theorem dX7_fittingDebts_7 : decode cX7_fittingDebts 7 = .ok (.sipush 999, 3) := by decide +kernel
theorem dX7_fittingDebts_10 : decode cX7_fittingDebts 10 = .ok (.if_icmp .gt 36, 3) := by decide +kernel
theorem dX7_fittingDebts_13 : decode cX7_fittingDebts 13 = .ok (.aload_n 0, 1) := by decide +kernel
theorem dX7_fittingDebts_14 : decode cX7_fittingDebts 14 = .ok (.getfield 19, 3) := by decide +kernel
theorem dX7_fittingDebts_17 : decode cX7_fittingDebts 17 = .ok (.iload_n 1, 1) := by decide +kernel
theorem dX7_fittingDebts_18 : decode cX7_fittingDebts 18 = .ok (.iload_n 2, 1) := by decide +kernel
theorem dX7_fittingDebts_19 : decode cX7_fittingDebts 19 = .ok (.iload 4, 2) := by decide +kernel
theorem dX7_fittingDebts_21 : decode cX7_fittingDebts 21 = .ok (.invokevirtual 111, 3) := by decide +kernel
theorem dX7_fittingDebts_24 : decode cX7_fittingDebts 24 = .ok (.iload_n 3, 1) := by decide +kernel
theorem dX7_fittingDebts_25 : decode cX7_fittingDebts 25 = .ok (.aload_n 0, 1) := by decide +kernel
theorem dX7_fittingDebts_26 : decode cX7_fittingDebts 26 = .ok (.iload_n 1, 1) := by decide +kernel
theorem dX7_fittingDebts_27 : decode cX7_fittingDebts 27 = .ok (.invokevirtual 264, 3) := by decide +kernel
theorem dX7_fittingDebts_30 : decode cX7_fittingDebts 30 = .ok (.ifCond .eq 7, 3) := by decide +kernel
theorem dX7_fittingDebts_33 : decode cX7_fittingDebts 33 = .ok (.iconst 1, 1) := by decide +kernel
theorem dX7_fittingDebts_34 : decode cX7_fittingDebts 34 = .ok (.goto 4, 3) := by decide +kernel
theorem dX7_fittingDebts_37 : decode cX7_fittingDebts 37 = .ok (.iconst 0, 1) := by decide +kernel
theorem dX7_fittingDebts_38 : decode cX7_fittingDebts 38 = .ok (.iadd, 1) := by decide +kernel
theorem dX7_fittingDebts_39 : decode cX7_fittingDebts 39 = .ok (.istore_n 3, 1) := by decide +kernel
theorem dX7_fittingDebts_40 : decode cX7_fittingDebts 40 = .ok (.iinc 4 1, 3) := by decide +kernel
theorem dX7_fittingDebts_43 : decode cX7_fittingDebts 43 = .ok (.goto (-38), 3) := by decide +kernel
theorem dX7_fittingDebts_46 : decode cX7_fittingDebts 46 = .ok (.iload_n 3, 1) := by decide +kernel
theorem dX7_fittingDebts_47 : decode cX7_fittingDebts 47 = .ok (.ireturn, 1) := by decide +kernel
theorem dX7_greatestDebt_0 : decode cX7_greatestDebt 0 = .ok (.sipush 999, 3) := by decide +kernel
theorem dX7_greatestDebt_3 : decode cX7_greatestDebt 3 = .ok (.istore_n 3, 1) := by decide +kernel
theorem dX7_greatestDebt_4 : decode cX7_greatestDebt 4 = .ok (.iload_n 3, 1) := by decide +kernel
theorem dX7_greatestDebt_5 : decode cX7_greatestDebt 5 = .ok (.ifCond .lt 29, 3) := by decide +kernel
theorem dX7_greatestDebt_8 : decode cX7_greatestDebt 8 = .ok (.aload_n 0, 1) := by decide +kernel
theorem dX7_greatestDebt_9 : decode cX7_greatestDebt 9 = .ok (.getfield 19, 3) := by decide +kernel
theorem dX7_greatestDebt_12 : decode cX7_greatestDebt 12 = .ok (.iload_n 1, 1) := by decide +kernel
theorem dX7_greatestDebt_13 : decode cX7_greatestDebt 13 = .ok (.iload_n 2, 1) := by decide +kernel
theorem dX7_greatestDebt_14 : decode cX7_greatestDebt 14 = .ok (.iload_n 3, 1) := by decide +kernel
theorem dX7_greatestDebt_15 : decode cX7_greatestDebt 15 = .ok (.invokevirtual 111, 3) := by decide +kernel
theorem dX7_greatestDebt_18 : decode cX7_greatestDebt 18 = .ok (.aload_n 0, 1) := by decide +kernel
theorem dX7_greatestDebt_19 : decode cX7_greatestDebt 19 = .ok (.iload_n 1, 1) := by decide +kernel
theorem dX7_greatestDebt_20 : decode cX7_greatestDebt 20 = .ok (.invokevirtual 264, 3) := by decide +kernel
theorem dX7_greatestDebt_23 : decode cX7_greatestDebt 23 = .ok (.ifCond .eq 5, 3) := by decide +kernel
theorem dX7_greatestDebt_26 : decode cX7_greatestDebt 26 = .ok (.iload_n 3, 1) := by decide +kernel
theorem dX7_greatestDebt_27 : decode cX7_greatestDebt 27 = .ok (.ireturn, 1) := by decide +kernel
theorem dX7_greatestDebt_28 : decode cX7_greatestDebt 28 = .ok (.iinc 3 (-1), 3) := by decide +kernel
theorem dX7_greatestDebt_31 : decode cX7_greatestDebt 31 = .ok (.goto (-27), 3) := by decide +kernel
theorem dX7_greatestDebt_34 : decode cX7_greatestDebt 34 = .ok (.iconst (-1), 1) := by decide +kernel
theorem dX7_greatestDebt_35 : decode cX7_greatestDebt 35 = .ok (.ireturn, 1) := by decide +kernel
theorem dX7_wouldFit_0 : decode cX7_wouldFit 0 = .ok (.aload_n 0, 1) := by decide +kernel
theorem dX7_wouldFit_1 : decode cX7_wouldFit 1 = .ok (.getfield 32, 3) := by decide +kernel
theorem dX7_wouldFit_4 : decode cX7_wouldFit 4 = .ok (.getfield 267, 3) := by decide +kernel
theorem dX7_wouldFit_7 : decode cX7_wouldFit 7 = .ok (.iload_n 1, 1) := by decide +kernel
theorem dX7_wouldFit_8 : decode cX7_wouldFit 8 = .ok (.aload_n 0, 1) := by decide +kernel
theorem dX7_wouldFit_9 : decode cX7_wouldFit 9 = .ok (.getfield 19, 3) := by decide +kernel
theorem dX7_wouldFit_12 : decode cX7_wouldFit 12 = .ok (.iload_n 1, 1) := by decide +kernel
theorem dX7_wouldFit_13 : decode cX7_wouldFit 13 = .ok (.aload_n 0, 1) := by decide +kernel
theorem dX7_wouldFit_14 : decode cX7_wouldFit 14 = .ok (.getfield 32, 3) := by decide +kernel
theorem dX7_wouldFit_17 : decode cX7_wouldFit 17 = .ok (.getfield 270, 3) := by decide +kernel
theorem dX7_wouldFit_20 : decode cX7_wouldFit 20 = .ok (.invokevirtual 128, 3) := by decide +kernel
theorem dX7_wouldFit_23 : decode cX7_wouldFit 23 = .ok (.iastore, 1) := by decide +kernel
theorem dX7_wouldFit_24 : decode cX7_wouldFit 24 = .ok (.aload_n 0, 1) := by decide +kernel
theorem dX7_wouldFit_25 : decode cX7_wouldFit 25 = .ok (.getfield 32, 3) := by decide +kernel
theorem dX7_wouldFit_28 : decode cX7_wouldFit 28 = .ok (.invokevirtual 161, 3) := by decide +kernel
theorem dX7_wouldFit_31 : decode cX7_wouldFit 31 = .ok (.iconst (-1), 1) := by decide +kernel
theorem dX7_wouldFit_32 : decode cX7_wouldFit 32 = .ok (.if_icmp .ne 7, 3) := by decide +kernel
theorem dX7_wouldFit_35 : decode cX7_wouldFit 35 = .ok (.iconst 1, 1) := by decide +kernel
theorem dX7_wouldFit_36 : decode cX7_wouldFit 36 = .ok (.goto 4, 3) := by decide +kernel
theorem dX7_wouldFit_39 : decode cX7_wouldFit 39 = .ok (.iconst 0, 1) := by decide +kernel
theorem dX7_wouldFit_40 : decode cX7_wouldFit 40 = .ok (.ireturn, 1) := by decide +kernel
theorem dX7_film_0 : decode cX7_film 0 = .ok (.iload_n 1, 1) := by decide +kernel
theorem dX7_film_1 : decode cX7_film 1 = .ok (.invokestatic 153, 3) := by decide +kernel
theorem dX7_film_4 : decode cX7_film 4 = .ok (.ifCond .ne 6, 3) := by decide +kernel
theorem dX7_film_7 : decode cX7_film 7 = .ok (.bipush (-2), 2) := by decide +kernel
theorem dX7_film_9 : decode cX7_film 9 = .ok (.ireturn, 1) := by decide +kernel
theorem dX7_film_10 : decode cX7_film 10 = .ok (.aload_n 0, 1) := by decide +kernel
theorem dX7_film_11 : decode cX7_film 11 = .ok (.aload_n 0, 1) := by decide +kernel
theorem dX7_film_12 : decode cX7_film 12 = .ok (.getfield 10, 3) := by decide +kernel
theorem dX7_film_15 : decode cX7_film 15 = .ok (.invokevirtual 200, 3) := by decide +kernel
theorem dX7_film_18 : decode cX7_film 18 = .ok (.ifCond .eq 13, 3) := by decide +kernel
theorem dX7_film_21 : decode cX7_film 21 = .ok (.aload_n 0, 1) := by decide +kernel
theorem dX7_film_22 : decode cX7_film 22 = .ok (.getfield 32, 3) := by decide +kernel
theorem dX7_film_25 : decode cX7_film 25 = .ok (.getfield 251, 3) := by decide +kernel
theorem dX7_film_28 : decode cX7_film 28 = .ok (.goto 4, 3) := by decide +kernel
theorem dX7_film_31 : decode cX7_film 31 = .ok (.iconst 0, 1) := by decide +kernel
theorem dX7_film_32 : decode cX7_film 32 = .ok (.istore_n 2, 1) := by decide +kernel
theorem dX7_film_33 : decode cX7_film 33 = .ok (.aload_n 0, 1) := by decide +kernel
theorem dX7_film_34 : decode cX7_film 34 = .ok (.getfield 45, 3) := by decide +kernel
theorem dX7_film_37 : decode cX7_film 37 = .ok (.iload_n 1, 1) := by decide +kernel
theorem dX7_film_38 : decode cX7_film 38 = .ok (.aaload, 1) := by decide +kernel
theorem dX7_film_39 : decode cX7_film 39 = .ok (.iconst 0, 1) := by decide +kernel
theorem dX7_film_40 : decode cX7_film 40 = .ok (.iload_n 2, 1) := by decide +kernel
theorem dX7_film_41 : decode cX7_film 41 = .ok (.invokevirtual 273, 3) := by decide +kernel
theorem dX7_film_44 : decode cX7_film 44 = .ok (.iconst 0, 1) := by decide +kernel
theorem dX7_film_45 : decode cX7_film 45 = .ok (.istore_n 3, 1) := by decide +kernel
theorem dX7_film_46 : decode cX7_film 46 = .ok (.iload_n 3, 1) := by decide +kernel
theorem dX7_film_47 : decode cX7_film 47 = .ok (.iload_n 2, 1) := by decide +kernel
theorem dX7_film_48 : decode cX7_film 48 = .ok (.if_icmp .ge 28, 3) := by decide +kernel
theorem dX7_film_51 : decode cX7_film 51 = .ok (.aload_n 0, 1) := by decide +kernel
theorem dX7_film_52 : decode cX7_film 52 = .ok (.getfield 45, 3) := by decide +kernel
theorem dX7_film_55 : decode cX7_film 55 = .ok (.iload_n 1, 1) := by decide +kernel
theorem dX7_film_56 : decode cX7_film 56 = .ok (.aaload, 1) := by decide +kernel
theorem dX7_film_57 : decode cX7_film 57 = .ok (.iload_n 3, 1) := by decide +kernel
theorem dX7_film_58 : decode cX7_film 58 = .ok (.aload_n 0, 1) := by decide +kernel
theorem dX7_film_59 : decode cX7_film 59 = .ok (.getfield 32, 3) := by decide +kernel
theorem dX7_film_62 : decode cX7_film 62 = .ok (.getfield 276, 3) := by decide +kernel
theorem dX7_film_65 : decode cX7_film 65 = .ok (.iload_n 3, 1) := by decide +kernel
theorem dX7_film_66 : decode cX7_film 66 = .ok (.iaload, 1) := by decide +kernel
theorem dX7_film_67 : decode cX7_film 67 = .ok (.invokevirtual 279, 3) := by decide +kernel
theorem dX7_film_70 : decode cX7_film 70 = .ok (.iinc 3 1, 3) := by decide +kernel
theorem dX7_film_73 : decode cX7_film 73 = .ok (.goto (-27), 3) := by decide +kernel
theorem dX7_film_76 : decode cX7_film 76 = .ok (.iload_n 2, 1) := by decide +kernel
theorem dX7_film_77 : decode cX7_film 77 = .ok (.ireturn, 1) := by decide +kernel
theorem dX7_drawn_0 : decode cX7_drawn 0 = .ok (.aload_n 0, 1) := by decide +kernel
theorem dX7_drawn_1 : decode cX7_drawn 1 = .ok (.getfield 19, 3) := by decide +kernel
theorem dX7_drawn_4 : decode cX7_drawn 4 = .ok (.aload_n 0, 1) := by decide +kernel
theorem dX7_drawn_5 : decode cX7_drawn 5 = .ok (.getfield 10, 3) := by decide +kernel
theorem dX7_drawn_8 : decode cX7_drawn 8 = .ok (.invokevirtual 168, 3) := by decide +kernel
theorem dX7_drawn_11 : decode cX7_drawn 11 = .ok (.aload_n 0, 1) := by decide +kernel
theorem dX7_drawn_12 : decode cX7_drawn 12 = .ok (.getfield 19, 3) := by decide +kernel
theorem dX7_drawn_15 : decode cX7_drawn 15 = .ok (.iload_n 1, 1) := by decide +kernel
theorem dX7_drawn_16 : decode cX7_drawn 16 = .ok (.invokevirtual 282, 3) := by decide +kernel
theorem dX7_drawn_19 : decode cX7_drawn 19 = .ok (.aload_n 0, 1) := by decide +kernel
theorem dX7_drawn_20 : decode cX7_drawn 20 = .ok (.aload_n 0, 1) := by decide +kernel
theorem dX7_drawn_21 : decode cX7_drawn 21 = .ok (.getfield 19, 3) := by decide +kernel
theorem dX7_drawn_24 : decode cX7_drawn 24 = .ok (.invokevirtual 196, 3) := by decide +kernel
theorem dX7_drawn_27 : decode cX7_drawn 27 = .ok (.ireturn, 1) := by decide +kernel
theorem dX7_chance_0 : decode cX7_chance 0 = .ok (.iload_n 2, 1) := by decide +kernel
theorem dX7_chance_1 : decode cX7_chance 1 = .ok (.iconst 1, 1) := by decide +kernel
theorem dX7_chance_2 : decode cX7_chance 2 = .ok (.bipush 20, 2) := by decide +kernel
theorem dX7_chance_4 : decode cX7_chance 4 = .ok (.invokestatic 72, 3) := by decide +kernel
theorem dX7_chance_7 : decode cX7_chance 7 = .ok (.ifCond .eq 12, 3) := by decide +kernel
theorem dX7_chance_10 : decode cX7_chance 10 = .ok (.iload_n 3, 1) := by decide +kernel
theorem dX7_chance_11 : decode cX7_chance 11 = .ok (.iconst 0, 1) := by decide +kernel
theorem dX7_chance_12 : decode cX7_chance 12 = .ok (.iconst 1, 1) := by decide +kernel
theorem dX7_chance_13 : decode cX7_chance 13 = .ok (.invokestatic 72, 3) := by decide +kernel
theorem dX7_chance_16 : decode cX7_chance 16 = .ok (.ifCond .ne 7, 3) := by decide +kernel
theorem dX7_chance_19 : decode cX7_chance 19 = .ok (.ldc2_w 286, 3) := by decide +kernel
theorem dX7_chance_22 : decode cX7_chance 22 = .ok (.lreturn, 1) := by decide +kernel
theorem dX7_chance_23 : decode cX7_chance 23 = .ok (.aload_n 0, 1) := by decide +kernel
theorem dX7_chance_24 : decode cX7_chance 24 = .ok (.getfield 19, 3) := by decide +kernel
theorem dX7_chance_27 : decode cX7_chance 27 = .ok (.aload_n 0, 1) := by decide +kernel
theorem dX7_chance_28 : decode cX7_chance 28 = .ok (.getfield 10, 3) := by decide +kernel
theorem dX7_chance_31 : decode cX7_chance 31 = .ok (.invokevirtual 168, 3) := by decide +kernel
theorem dX7_chance_34 : decode cX7_chance 34 = .ok (.iconst 0, 1) := by decide +kernel
theorem dX7_chance_35 : decode cX7_chance 35 = .ok (.istore 4, 2) := by decide +kernel
theorem dX7_chance_37 : decode cX7_chance 37 = .ok (.iconst 0, 1) := by decide +kernel
theorem dX7_chance_38 : decode cX7_chance 38 = .ok (.istore 5, 2) := by decide +kernel
theorem dX7_chance_40 : decode cX7_chance 40 = .ok (.iload 5, 2) := by decide +kernel
theorem dX7_chance_42 : decode cX7_chance 42 = .ok (.iload_n 2, 1) := by decide +kernel
theorem dX7_chance_43 : decode cX7_chance 43 = .ok (.if_icmp .ge 49, 3) := by decide +kernel
theorem dX7_chance_46 : decode cX7_chance 46 = .ok (.aload_n 0, 1) := by decide +kernel
theorem dX7_chance_47 : decode cX7_chance 47 = .ok (.getfield 19, 3) := by decide +kernel
theorem dX7_chance_50 : decode cX7_chance 50 = .ok (.iload_n 1, 1) := by decide +kernel
theorem dX7_chance_51 : decode cX7_chance 51 = .ok (.iload 5, 2) := by decide +kernel
theorem dX7_chance_53 : decode cX7_chance 53 = .ok (.iadd, 1) := by decide +kernel
theorem dX7_chance_54 : decode cX7_chance 54 = .ok (.invokevirtual 282, 3) := by decide +kernel
theorem dX7_chance_57 : decode cX7_chance 57 = .ok (.iload 4, 2) := by decide +kernel
theorem dX7_chance_59 : decode cX7_chance 59 = .ok (.aload_n 0, 1) := by decide +kernel
theorem dX7_chance_60 : decode cX7_chance 60 = .ok (.aload_n 0, 1) := by decide +kernel
theorem dX7_chance_61 : decode cX7_chance 61 = .ok (.getfield 19, 3) := by decide +kernel
theorem dX7_chance_64 : decode cX7_chance 64 = .ok (.aload_n 0, 1) := by decide +kernel
theorem dX7_chance_65 : decode cX7_chance 65 = .ok (.getfield 19, 3) := by decide +kernel
theorem dX7_chance_68 : decode cX7_chance 68 = .ok (.invokevirtual 121, 3) := by decide +kernel
theorem dX7_chance_71 : decode cX7_chance 71 = .ok (.iconst (-1), 1) := by decide +kernel
theorem dX7_chance_72 : decode cX7_chance 72 = .ok (.invokevirtual 227, 3) := by decide +kernel
theorem dX7_chance_75 : decode cX7_chance 75 = .ok (.ifCond .eq 7, 3) := by decide +kernel
theorem dX7_chance_78 : decode cX7_chance 78 = .ok (.iconst 1, 1) := by decide +kernel
theorem dX7_chance_79 : decode cX7_chance 79 = .ok (.goto 4, 3) := by decide +kernel
theorem dX7_chance_82 : decode cX7_chance 82 = .ok (.iconst 0, 1) := by decide +kernel
theorem dX7_chance_83 : decode cX7_chance 83 = .ok (.iadd, 1) := by decide +kernel
theorem dX7_chance_84 : decode cX7_chance 84 = .ok (.istore 4, 2) := by decide +kernel
theorem dX7_chance_86 : decode cX7_chance 86 = .ok (.iinc 5 1, 3) := by decide +kernel
theorem dX7_chance_89 : decode cX7_chance 89 = .ok (.goto (-49), 3) := by decide +kernel
theorem dX7_chance_92 : decode cX7_chance 92 = .ok (.iload_n 3, 1) := by decide +kernel
theorem dX7_chance_93 : decode cX7_chance 93 = .ok (.ifCond .ne 8, 3) := by decide +kernel
theorem dX7_chance_96 : decode cX7_chance 96 = .ok (.iload 4, 2) := by decide +kernel
theorem dX7_chance_98 : decode cX7_chance 98 = .ok (.goto 4, 3) := by decide +kernel
theorem dX7_chance_101 : decode cX7_chance 101 = .ok (.iload_n 2, 1) := by decide +kernel
theorem dX7_chance_102 : decode cX7_chance 102 = .ok (.iload 4, 2) := by decide +kernel
theorem dX7_chance_104 : decode cX7_chance 104 = .ok (.iload_n 2, 1) := by decide +kernel
theorem dX7_chance_105 : decode cX7_chance 105 = .ok (.invokestatic 288, 3) := by decide +kernel
theorem dX7_chance_108 : decode cX7_chance 108 = .ok (.idiv, 1) := by decide +kernel
theorem dX7_chance_109 : decode cX7_chance 109 = .ok (.i2l, 1) := by decide +kernel
theorem dX7_chance_110 : decode cX7_chance 110 = .ok (.lreturn, 1) := by decide +kernel
theorem dX7_commonDivisor_0 : decode cX7_commonDivisor 0 = .ok (.iload_n 1, 1) := by decide +kernel
theorem dX7_commonDivisor_1 : decode cX7_commonDivisor 1 = .ok (.istore_n 2, 1) := by decide +kernel
theorem dX7_commonDivisor_2 : decode cX7_commonDivisor 2 = .ok (.iload_n 2, 1) := by decide +kernel
theorem dX7_commonDivisor_3 : decode cX7_commonDivisor 3 = .ok (.iconst 1, 1) := by decide +kernel
theorem dX7_commonDivisor_4 : decode cX7_commonDivisor 4 = .ok (.if_icmp .le 23, 3) := by decide +kernel
theorem dX7_commonDivisor_7 : decode cX7_commonDivisor 7 = .ok (.iload_n 0, 1) := by decide +kernel
theorem dX7_commonDivisor_8 : decode cX7_commonDivisor 8 = .ok (.iload_n 2, 1) := by decide +kernel
theorem dX7_commonDivisor_9 : decode cX7_commonDivisor 9 = .ok (.irem, 1) := by decide +kernel
theorem dX7_commonDivisor_10 : decode cX7_commonDivisor 10 = .ok (.ifCond .ne 11, 3) := by decide +kernel
theorem dX7_commonDivisor_13 : decode cX7_commonDivisor 13 = .ok (.iload_n 1, 1) := by decide +kernel
theorem dX7_commonDivisor_14 : decode cX7_commonDivisor 14 = .ok (.iload_n 2, 1) := by decide +kernel
theorem dX7_commonDivisor_15 : decode cX7_commonDivisor 15 = .ok (.irem, 1) := by decide +kernel
theorem dX7_commonDivisor_16 : decode cX7_commonDivisor 16 = .ok (.ifCond .ne 5, 3) := by decide +kernel
theorem dX7_commonDivisor_19 : decode cX7_commonDivisor 19 = .ok (.iload_n 2, 1) := by decide +kernel
theorem dX7_commonDivisor_20 : decode cX7_commonDivisor 20 = .ok (.ireturn, 1) := by decide +kernel
theorem dX7_commonDivisor_21 : decode cX7_commonDivisor 21 = .ok (.iinc 2 (-1), 3) := by decide +kernel
theorem dX7_commonDivisor_24 : decode cX7_commonDivisor 24 = .ok (.goto (-22), 3) := by decide +kernel
theorem dX7_commonDivisor_27 : decode cX7_commonDivisor 27 = .ok (.iconst 1, 1) := by decide +kernel
theorem dX7_commonDivisor_28 : decode cX7_commonDivisor 28 = .ok (.ireturn, 1) := by decide +kernel
theorem dX7_image_0 : decode cX7_image 0 = .ok (.aload_n 0, 1) := by decide +kernel
theorem dX7_image_1 : decode cX7_image 1 = .ok (.getfield 16, 3) := by decide +kernel
theorem dX7_image_4 : decode cX7_image 4 = .ok (.aload_n 0, 1) := by decide +kernel
theorem dX7_image_5 : decode cX7_image 5 = .ok (.getfield 10, 3) := by decide +kernel
theorem dX7_image_8 : decode cX7_image 8 = .ok (.invokevirtual 168, 3) := by decide +kernel
theorem dX7_image_11 : decode cX7_image 11 = .ok (.aload_n 0, 1) := by decide +kernel
theorem dX7_image_12 : decode cX7_image 12 = .ok (.iconst 1, 1) := by decide +kernel
theorem dX7_image_13 : decode cX7_image 13 = .ok (.putfield 53, 3) := by decide +kernel
theorem dX7_image_16 : decode cX7_image 16 = .ok (.aload_n 0, 1) := by decide +kernel
theorem dX7_image_17 : decode cX7_image 17 = .ok (.getfield 10, 3) := by decide +kernel
theorem dX7_image_20 : decode cX7_image 20 = .ok (.getfield 98, 3) := by decide +kernel
theorem dX7_image_23 : decode cX7_image 23 = .ok (.ireturn, 1) := by decide +kernel
theorem dX7_back_0 : decode cX7_back 0 = .ok (.aload_n 0, 1) := by decide +kernel
theorem dX7_back_1 : decode cX7_back 1 = .ok (.getfield 53, 3) := by decide +kernel
theorem dX7_back_4 : decode cX7_back 4 = .ok (.ifCond .ne 6, 3) := by decide +kernel
theorem dX7_back_7 : decode cX7_back 7 = .ok (.bipush (-3), 2) := by decide +kernel
theorem dX7_back_9 : decode cX7_back 9 = .ok (.ireturn, 1) := by decide +kernel
theorem dX7_back_10 : decode cX7_back 10 = .ok (.aload_n 0, 1) := by decide +kernel
theorem dX7_back_11 : decode cX7_back 11 = .ok (.getfield 10, 3) := by decide +kernel
theorem dX7_back_14 : decode cX7_back 14 = .ok (.aload_n 0, 1) := by decide +kernel
theorem dX7_back_15 : decode cX7_back 15 = .ok (.getfield 16, 3) := by decide +kernel
theorem dX7_back_18 : decode cX7_back 18 = .ok (.invokevirtual 168, 3) := by decide +kernel
theorem dX7_back_21 : decode cX7_back 21 = .ok (.aload_n 0, 1) := by decide +kernel
theorem dX7_back_22 : decode cX7_back 22 = .ok (.getfield 10, 3) := by decide +kernel
theorem dX7_back_25 : decode cX7_back 25 = .ok (.getfield 98, 3) := by decide +kernel
theorem dX7_back_28 : decode cX7_back 28 = .ok (.ireturn, 1) := by decide +kernel
theorem dX7_count_0 : decode cX7_count 0 = .ok (.iload_n 1, 1) := by decide +kernel
theorem dX7_count_1 : decode cX7_count 1 = .ok (.tableswitch 96 0 6 #[43, 51, 59, 67, 75, 80, 88], 43) := by decide +kernel
theorem dX7_count_44 : decode cX7_count 44 = .ok (.aload_n 0, 1) := by decide +kernel
theorem dX7_count_45 : decode cX7_count 45 = .ok (.getfield 10, 3) := by decide +kernel
theorem dX7_count_48 : decode cX7_count 48 = .ok (.getfield 98, 3) := by decide +kernel
theorem dX7_count_51 : decode cX7_count 51 = .ok (.ireturn, 1) := by decide +kernel
theorem dX7_count_52 : decode cX7_count 52 = .ok (.aload_n 0, 1) := by decide +kernel
theorem dX7_count_53 : decode cX7_count 53 = .ok (.getfield 10, 3) := by decide +kernel
theorem dX7_count_56 : decode cX7_count 56 = .ok (.invokevirtual 176, 3) := by decide +kernel
theorem dX7_count_59 : decode cX7_count 59 = .ok (.ireturn, 1) := by decide +kernel
theorem dX7_count_60 : decode cX7_count 60 = .ok (.aload_n 0, 1) := by decide +kernel
theorem dX7_count_61 : decode cX7_count 61 = .ok (.getfield 10, 3) := by decide +kernel
theorem dX7_count_64 : decode cX7_count 64 = .ok (.invokevirtual 245, 3) := by decide +kernel
theorem dX7_count_67 : decode cX7_count 67 = .ok (.ireturn, 1) := by decide +kernel
theorem dX7_count_68 : decode cX7_count 68 = .ok (.aload_n 0, 1) := by decide +kernel
theorem dX7_count_69 : decode cX7_count 69 = .ok (.getfield 10, 3) := by decide +kernel
theorem dX7_count_72 : decode cX7_count 72 = .ok (.getfield 79, 3) := by decide +kernel
theorem dX7_count_75 : decode cX7_count 75 = .ok (.ireturn, 1) := by decide +kernel
theorem dX7_count_76 : decode cX7_count 76 = .ok (.aload_n 0, 1) := by decide +kernel
theorem dX7_count_77 : decode cX7_count 77 = .ok (.getfield 49, 3) := by decide +kernel
theorem dX7_count_80 : decode cX7_count 80 = .ok (.ireturn, 1) := by decide +kernel
theorem dX7_count_81 : decode cX7_count 81 = .ok (.aload_n 0, 1) := by decide +kernel
theorem dX7_count_82 : decode cX7_count 82 = .ok (.getfield 39, 3) := by decide +kernel
theorem dX7_count_85 : decode cX7_count 85 = .ok (.getfield 137, 3) := by decide +kernel
theorem dX7_count_88 : decode cX7_count 88 = .ok (.ireturn, 1) := by decide +kernel
theorem dX7_count_89 : decode cX7_count 89 = .ok (.aload_n 0, 1) := by decide +kernel
theorem dX7_count_90 : decode cX7_count 90 = .ok (.getfield 10, 3) := by decide +kernel
theorem dX7_count_93 : decode cX7_count 93 = .ok (.getfield 151, 3) := by decide +kernel
theorem dX7_count_96 : decode cX7_count 96 = .ok (.ireturn, 1) := by decide +kernel
theorem dX7_count_97 : decode cX7_count 97 = .ok (.bipush (-2), 2) := by decide +kernel
theorem dX7_count_99 : decode cX7_count 99 = .ok (.ireturn, 1) := by decide +kernel
theorem dX7_sheet_0 : decode cX7_sheet 0 = .ok (.iload_n 1, 1) := by decide +kernel
theorem dX7_sheet_1 : decode cX7_sheet 1 = .ok (.invokestatic 153, 3) := by decide +kernel
theorem dX7_sheet_4 : decode cX7_sheet 4 = .ok (.ifCond .eq 15, 3) := by decide +kernel
theorem dX7_sheet_7 : decode cX7_sheet 7 = .ok (.iload_n 2, 1) := by decide +kernel
theorem dX7_sheet_8 : decode cX7_sheet 8 = .ok (.iconst (-1), 1) := by decide +kernel
theorem dX7_sheet_9 : decode cX7_sheet 9 = .ok (.if_icmp .eq 13, 3) := by decide +kernel
theorem dX7_sheet_12 : decode cX7_sheet 12 = .ok (.iload_n 2, 1) := by decide +kernel
theorem dX7_sheet_13 : decode cX7_sheet 13 = .ok (.invokestatic 291, 3) := by decide +kernel
theorem dX7_sheet_16 : decode cX7_sheet 16 = .ok (.ifCond .ne 6, 3) := by decide +kernel
theorem dX7_sheet_19 : decode cX7_sheet 19 = .ok (.bipush (-2), 2) := by decide +kernel
theorem dX7_sheet_21 : decode cX7_sheet 21 = .ok (.ireturn, 1) := by decide +kernel
theorem dX7_sheet_22 : decode cX7_sheet 22 = .ok (.iload_n 2, 1) := by decide +kernel
theorem dX7_sheet_23 : decode cX7_sheet 23 = .ok (.iconst (-1), 1) := by decide +kernel
theorem dX7_sheet_24 : decode cX7_sheet 24 = .ok (.if_icmp .ne 16, 3) := by decide +kernel
theorem dX7_sheet_27 : decode cX7_sheet 27 = .ok (.aload_n 0, 1) := by decide +kernel
theorem dX7_sheet_28 : decode cX7_sheet 28 = .ok (.getfield 45, 3) := by decide +kernel
theorem dX7_sheet_31 : decode cX7_sheet 31 = .ok (.iload_n 1, 1) := by decide +kernel
theorem dX7_sheet_32 : decode cX7_sheet 32 = .ok (.aaload, 1) := by decide +kernel
theorem dX7_sheet_33 : decode cX7_sheet 33 = .ok (.iconst (-1), 1) := by decide +kernel
theorem dX7_sheet_34 : decode cX7_sheet 34 = .ok (.iconst 0, 1) := by decide +kernel
theorem dX7_sheet_35 : decode cX7_sheet 35 = .ok (.invokevirtual 273, 3) := by decide +kernel
theorem dX7_sheet_38 : decode cX7_sheet 38 = .ok (.iconst 1, 1) := by decide +kernel
theorem dX7_sheet_39 : decode cX7_sheet 39 = .ok (.ireturn, 1) := by decide +kernel
theorem dX7_sheet_40 : decode cX7_sheet 40 = .ok (.iload_n 3, 1) := by decide +kernel
theorem dX7_sheet_41 : decode cX7_sheet 41 = .ok (.bipush 40, 2) := by decide +kernel
theorem dX7_sheet_43 : decode cX7_sheet 43 = .ok (.if_icmp .le 6, 3) := by decide +kernel
theorem dX7_sheet_46 : decode cX7_sheet 46 = .ok (.bipush (-2), 2) := by decide +kernel
theorem dX7_sheet_48 : decode cX7_sheet 48 = .ok (.ireturn, 1) := by decide +kernel
theorem dX7_sheet_49 : decode cX7_sheet 49 = .ok (.iload_n 3, 1) := by decide +kernel
theorem dX7_sheet_50 : decode cX7_sheet 50 = .ok (.ifCond .ge 6, 3) := by decide +kernel
theorem dX7_sheet_53 : decode cX7_sheet 53 = .ok (.bipush (-14), 2) := by decide +kernel
theorem dX7_sheet_55 : decode cX7_sheet 55 = .ok (.ireturn, 1) := by decide +kernel
theorem dX7_sheet_56 : decode cX7_sheet 56 = .ok (.aload_n 0, 1) := by decide +kernel
theorem dX7_sheet_57 : decode cX7_sheet 57 = .ok (.getfield 45, 3) := by decide +kernel
theorem dX7_sheet_60 : decode cX7_sheet 60 = .ok (.iload_n 1, 1) := by decide +kernel
theorem dX7_sheet_61 : decode cX7_sheet 61 = .ok (.aaload, 1) := by decide +kernel
theorem dX7_sheet_62 : decode cX7_sheet 62 = .ok (.iload_n 2, 1) := by decide +kernel
theorem dX7_sheet_63 : decode cX7_sheet 63 = .ok (.iload_n 3, 1) := by decide +kernel
theorem dX7_sheet_64 : decode cX7_sheet 64 = .ok (.invokevirtual 273, 3) := by decide +kernel
theorem dX7_sheet_67 : decode cX7_sheet 67 = .ok (.iconst 1, 1) := by decide +kernel
theorem dX7_sheet_68 : decode cX7_sheet 68 = .ok (.ireturn, 1) := by decide +kernel
theorem dX7_cell_0 : decode cX7_cell 0 = .ok (.iload_n 1, 1) := by decide +kernel
theorem dX7_cell_1 : decode cX7_cell 1 = .ok (.invokestatic 153, 3) := by decide +kernel
theorem dX7_cell_4 : decode cX7_cell 4 = .ok (.ifCond .ne 6, 3) := by decide +kernel
theorem dX7_cell_7 : decode cX7_cell 7 = .ok (.bipush (-2), 2) := by decide +kernel
theorem dX7_cell_9 : decode cX7_cell 9 = .ok (.ireturn, 1) := by decide +kernel
theorem dX7_cell_10 : decode cX7_cell 10 = .ok (.aload_n 0, 1) := by decide +kernel
theorem dX7_cell_11 : decode cX7_cell 11 = .ok (.getfield 45, 3) := by decide +kernel
theorem dX7_cell_14 : decode cX7_cell 14 = .ok (.iload_n 1, 1) := by decide +kernel
theorem dX7_cell_15 : decode cX7_cell 15 = .ok (.aaload, 1) := by decide +kernel
theorem dX7_cell_16 : decode cX7_cell 16 = .ok (.getfield 179, 3) := by decide +kernel
theorem dX7_cell_19 : decode cX7_cell 19 = .ok (.iconst (-1), 1) := by decide +kernel
theorem dX7_cell_20 : decode cX7_cell 20 = .ok (.if_icmp .ne 6, 3) := by decide +kernel
theorem dX7_cell_23 : decode cX7_cell 23 = .ok (.bipush (-11), 2) := by decide +kernel
theorem dX7_cell_25 : decode cX7_cell 25 = .ok (.ireturn, 1) := by decide +kernel
theorem dX7_cell_26 : decode cX7_cell 26 = .ok (.aload_n 0, 1) := by decide +kernel
theorem dX7_cell_27 : decode cX7_cell 27 = .ok (.getfield 45, 3) := by decide +kernel
theorem dX7_cell_30 : decode cX7_cell 30 = .ok (.iload_n 1, 1) := by decide +kernel
theorem dX7_cell_31 : decode cX7_cell 31 = .ok (.aaload, 1) := by decide +kernel
theorem dX7_cell_32 : decode cX7_cell 32 = .ok (.iload_n 2, 1) := by decide +kernel
theorem dX7_cell_33 : decode cX7_cell 33 = .ok (.invokevirtual 294, 3) := by decide +kernel
theorem dX7_cell_36 : decode cX7_cell 36 = .ok (.ifCond .ne 6, 3) := by decide +kernel
theorem dX7_cell_39 : decode cX7_cell 39 = .ok (.bipush (-12), 2) := by decide +kernel
theorem dX7_cell_41 : decode cX7_cell 41 = .ok (.ireturn, 1) := by decide +kernel
theorem dX7_cell_42 : decode cX7_cell 42 = .ok (.aload_n 0, 1) := by decide +kernel
theorem dX7_cell_43 : decode cX7_cell 43 = .ok (.getfield 45, 3) := by decide +kernel
theorem dX7_cell_46 : decode cX7_cell 46 = .ok (.iload_n 1, 1) := by decide +kernel
theorem dX7_cell_47 : decode cX7_cell 47 = .ok (.aaload, 1) := by decide +kernel
theorem dX7_cell_48 : decode cX7_cell 48 = .ok (.iload_n 2, 1) := by decide +kernel
theorem dX7_cell_49 : decode cX7_cell 49 = .ok (.iload_n 3, 1) := by decide +kernel
theorem dX7_cell_50 : decode cX7_cell 50 = .ok (.invokevirtual 279, 3) := by decide +kernel
theorem dX7_cell_53 : decode cX7_cell 53 = .ok (.iconst 1, 1) := by decide +kernel
theorem dX7_cell_54 : decode cX7_cell 54 = .ok (.ireturn, 1) := by decide +kernel
theorem dX7_copy_0 : decode cX7_copy 0 = .ok (.iload_n 1, 1) := by decide +kernel
theorem dX7_copy_1 : decode cX7_copy 1 = .ok (.invokestatic 153, 3) := by decide +kernel
theorem dX7_copy_4 : decode cX7_copy 4 = .ok (.ifCond .eq 10, 3) := by decide +kernel
theorem dX7_copy_7 : decode cX7_copy 7 = .ok (.iload_n 3, 1) := by decide +kernel
theorem dX7_copy_8 : decode cX7_copy 8 = .ok (.invokestatic 153, 3) := by decide +kernel
theorem dX7_copy_11 : decode cX7_copy 11 = .ok (.ifCond .ne 6, 3) := by decide +kernel
theorem dX7_copy_14 : decode cX7_copy 14 = .ok (.bipush (-2), 2) := by decide +kernel
theorem dX7_copy_16 : decode cX7_copy 16 = .ok (.ireturn, 1) := by decide +kernel
theorem dX7_copy_17 : decode cX7_copy 17 = .ok (.aload_n 0, 1) := by decide +kernel
theorem dX7_copy_18 : decode cX7_copy 18 = .ok (.getfield 45, 3) := by decide +kernel
theorem dX7_copy_21 : decode cX7_copy 21 = .ok (.iload_n 1, 1) := by decide +kernel
theorem dX7_copy_22 : decode cX7_copy 22 = .ok (.aaload, 1) := by decide +kernel
theorem dX7_copy_23 : decode cX7_copy 23 = .ok (.astore 6, 2) := by decide +kernel
theorem dX7_copy_25 : decode cX7_copy 25 = .ok (.aload_n 0, 1) := by decide +kernel
theorem dX7_copy_26 : decode cX7_copy 26 = .ok (.getfield 45, 3) := by decide +kernel
theorem dX7_copy_29 : decode cX7_copy 29 = .ok (.iload_n 3, 1) := by decide +kernel
theorem dX7_copy_30 : decode cX7_copy 30 = .ok (.aaload, 1) := by decide +kernel
theorem dX7_copy_31 : decode cX7_copy 31 = .ok (.astore 7, 2) := by decide +kernel
theorem dX7_copy_33 : decode cX7_copy 33 = .ok (.aload 6, 2) := by decide +kernel
theorem dX7_copy_35 : decode cX7_copy 35 = .ok (.getfield 179, 3) := by decide +kernel
theorem dX7_copy_38 : decode cX7_copy 38 = .ok (.iconst (-1), 1) := by decide +kernel
theorem dX7_copy_39 : decode cX7_copy 39 = .ok (.if_icmp .eq 12, 3) := by decide +kernel
theorem dX7_copy_42 : decode cX7_copy 42 = .ok (.aload 7, 2) := by decide +kernel
theorem dX7_copy_44 : decode cX7_copy 44 = .ok (.getfield 179, 3) := by decide +kernel
theorem dX7_copy_47 : decode cX7_copy 47 = .ok (.iconst (-1), 1) := by decide +kernel
theorem dX7_copy_48 : decode cX7_copy 48 = .ok (.if_icmp .ne 6, 3) := by decide +kernel
theorem dX7_copy_51 : decode cX7_copy 51 = .ok (.bipush (-11), 2) := by decide +kernel
theorem dX7_copy_53 : decode cX7_copy 53 = .ok (.ireturn, 1) := by decide +kernel
theorem dX7_copy_54 : decode cX7_copy 54 = .ok (.aload 6, 2) := by decide +kernel
theorem dX7_copy_56 : decode cX7_copy 56 = .ok (.getfield 179, 3) := by decide +kernel
theorem dX7_copy_59 : decode cX7_copy 59 = .ok (.aload 7, 2) := by decide +kernel
theorem dX7_copy_61 : decode cX7_copy 61 = .ok (.getfield 179, 3) := by decide +kernel
theorem dX7_copy_64 : decode cX7_copy 64 = .ok (.if_icmp .eq 6, 3) := by decide +kernel
theorem dX7_copy_67 : decode cX7_copy 67 = .ok (.bipush (-13), 2) := by decide +kernel
theorem dX7_copy_69 : decode cX7_copy 69 = .ok (.ireturn, 1) := by decide +kernel
theorem dX7_copy_70 : decode cX7_copy 70 = .ok (.aload 6, 2) := by decide +kernel
theorem dX7_copy_72 : decode cX7_copy 72 = .ok (.iload_n 2, 1) := by decide +kernel
theorem dX7_copy_73 : decode cX7_copy 73 = .ok (.iload 5, 2) := by decide +kernel
theorem dX7_copy_75 : decode cX7_copy 75 = .ok (.invokevirtual 297, 3) := by decide +kernel
theorem dX7_copy_78 : decode cX7_copy 78 = .ok (.ifCond .eq 15, 3) := by decide +kernel
theorem dX7_copy_81 : decode cX7_copy 81 = .ok (.aload 7, 2) := by decide +kernel
theorem dX7_copy_83 : decode cX7_copy 83 = .ok (.iload 4, 2) := by decide +kernel
theorem dX7_copy_85 : decode cX7_copy 85 = .ok (.iload 5, 2) := by decide +kernel
theorem dX7_copy_87 : decode cX7_copy 87 = .ok (.invokevirtual 297, 3) := by decide +kernel
theorem dX7_copy_90 : decode cX7_copy 90 = .ok (.ifCond .ne 6, 3) := by decide +kernel
theorem dX7_copy_93 : decode cX7_copy 93 = .ok (.bipush (-12), 2) := by decide +kernel
theorem dX7_copy_95 : decode cX7_copy 95 = .ok (.ireturn, 1) := by decide +kernel
theorem dX7_copy_96 : decode cX7_copy 96 = .ok (.aload 6, 2) := by decide +kernel
theorem dX7_copy_98 : decode cX7_copy 98 = .ok (.getfield 183, 3) := by decide +kernel
theorem dX7_copy_101 : decode cX7_copy 101 = .ok (.iload_n 2, 1) := by decide +kernel
theorem dX7_copy_102 : decode cX7_copy 102 = .ok (.aload 7, 2) := by decide +kernel
theorem dX7_copy_104 : decode cX7_copy 104 = .ok (.getfield 183, 3) := by decide +kernel
theorem dX7_copy_107 : decode cX7_copy 107 = .ok (.iload 4, 2) := by decide +kernel
theorem dX7_copy_109 : decode cX7_copy 109 = .ok (.iload 5, 2) := by decide +kernel
theorem dX7_copy_111 : decode cX7_copy 111 = .ok (.invokestatic 300, 3) := by decide +kernel
theorem dX7_copy_114 : decode cX7_copy 114 = .ok (.iload 5, 2) := by decide +kernel
theorem dX7_copy_116 : decode cX7_copy 116 = .ok (.ireturn, 1) := by decide +kernel
theorem dX7_guests_0 : decode cX7_guests 0 = .ok (.iload_n 1, 1) := by decide +kernel
theorem dX7_guests_1 : decode cX7_guests 1 = .ok (.invokestatic 153, 3) := by decide +kernel
theorem dX7_guests_4 : decode cX7_guests 4 = .ok (.ifCond .eq 21, 3) := by decide +kernel
theorem dX7_guests_7 : decode cX7_guests 7 = .ok (.iload_n 2, 1) := by decide +kernel
theorem dX7_guests_8 : decode cX7_guests 8 = .ok (.invokestatic 291, 3) := by decide +kernel
theorem dX7_guests_11 : decode cX7_guests 11 = .ok (.ifCond .eq 14, 3) := by decide +kernel
theorem dX7_guests_14 : decode cX7_guests 14 = .ok (.iload 4, 2) := by decide +kernel
theorem dX7_guests_16 : decode cX7_guests 16 = .ok (.iconst 0, 1) := by decide +kernel
theorem dX7_guests_17 : decode cX7_guests 17 = .ok (.bipush 7, 2) := by decide +kernel
theorem dX7_guests_19 : decode cX7_guests 19 = .ok (.invokestatic 72, 3) := by decide +kernel
theorem dX7_guests_22 : decode cX7_guests 22 = .ok (.ifCond .ne 6, 3) := by decide +kernel
theorem dX7_guests_25 : decode cX7_guests 25 = .ok (.bipush (-2), 2) := by decide +kernel
theorem dX7_guests_27 : decode cX7_guests 27 = .ok (.ireturn, 1) := by decide +kernel
theorem dX7_guests_28 : decode cX7_guests 28 = .ok (.aload_n 0, 1) := by decide +kernel
theorem dX7_guests_29 : decode cX7_guests 29 = .ok (.getfield 45, 3) := by decide +kernel
theorem dX7_guests_32 : decode cX7_guests 32 = .ok (.iload_n 1, 1) := by decide +kernel
theorem dX7_guests_33 : decode cX7_guests 33 = .ok (.aaload, 1) := by decide +kernel
theorem dX7_guests_34 : decode cX7_guests 34 = .ok (.astore 5, 2) := by decide +kernel
theorem dX7_guests_36 : decode cX7_guests 36 = .ok (.aload 5, 2) := by decide +kernel
theorem dX7_guests_38 : decode cX7_guests 38 = .ok (.getfield 179, 3) := by decide +kernel
theorem dX7_guests_41 : decode cX7_guests 41 = .ok (.iconst (-1), 1) := by decide +kernel
theorem dX7_guests_42 : decode cX7_guests 42 = .ok (.if_icmp .eq 15, 3) := by decide +kernel
theorem dX7_guests_45 : decode cX7_guests 45 = .ok (.aload 5, 2) := by decide +kernel
theorem dX7_guests_47 : decode cX7_guests 47 = .ok (.getfield 179, 3) := by decide +kernel
theorem dX7_guests_50 : decode cX7_guests 50 = .ok (.iload_n 2, 1) := by decide +kernel
theorem dX7_guests_51 : decode cX7_guests 51 = .ok (.if_icmp .eq 6, 3) := by decide +kernel
theorem dX7_guests_54 : decode cX7_guests 54 = .ok (.bipush (-13), 2) := by decide +kernel
theorem dX7_guests_56 : decode cX7_guests 56 = .ok (.ireturn, 1) := by decide +kernel
theorem dX7_guests_57 : decode cX7_guests 57 = .ok (.aload 5, 2) := by decide +kernel
theorem dX7_guests_59 : decode cX7_guests 59 = .ok (.getfield 179, 3) := by decide +kernel
theorem dX7_guests_62 : decode cX7_guests 62 = .ok (.iconst (-1), 1) := by decide +kernel
theorem dX7_guests_63 : decode cX7_guests 63 = .ok (.if_icmp .ne 8, 3) := by decide +kernel
theorem dX7_guests_66 : decode cX7_guests 66 = .ok (.bipush (-11), 2) := by decide +kernel
theorem dX7_guests_68 : decode cX7_guests 68 = .ok (.goto 12, 3) := by decide +kernel
theorem dX7_guests_71 : decode cX7_guests 71 = .ok (.aload_n 0, 1) := by decide +kernel
theorem dX7_guests_72 : decode cX7_guests 72 = .ok (.aload 5, 2) := by decide +kernel
theorem dX7_guests_74 : decode cX7_guests 74 = .ok (.iload_n 3, 1) := by decide +kernel
theorem dX7_guests_75 : decode cX7_guests 75 = .ok (.iload 4, 2) := by decide +kernel
theorem dX7_guests_77 : decode cX7_guests 77 = .ok (.invokevirtual 306, 3) := by decide +kernel
theorem dX7_guests_80 : decode cX7_guests 80 = .ok (.ireturn, 1) := by decide +kernel
theorem dX7_welcomeAll_0 : decode cX7_welcomeAll 0 = .ok (.iconst 0, 1) := by decide +kernel
theorem dX7_welcomeAll_1 : decode cX7_welcomeAll 1 = .ok (.istore 4, 2) := by decide +kernel
theorem dX7_welcomeAll_3 : decode cX7_welcomeAll 3 = .ok (.iconst 0, 1) := by decide +kernel
theorem dX7_welcomeAll_4 : decode cX7_welcomeAll 4 = .ok (.istore 5, 2) := by decide +kernel
theorem dX7_welcomeAll_6 : decode cX7_welcomeAll 6 = .ok (.iload 5, 2) := by decide +kernel
theorem dX7_welcomeAll_8 : decode cX7_welcomeAll 8 = .ok (.iload_n 3, 1) := by decide +kernel
theorem dX7_welcomeAll_9 : decode cX7_welcomeAll 9 = .ok (.if_icmp .ge 75, 3) := by decide +kernel
theorem dX7_welcomeAll_12 : decode cX7_welcomeAll 12 = .ok (.aload_n 1, 1) := by decide +kernel
theorem dX7_welcomeAll_13 : decode cX7_welcomeAll 13 = .ok (.iload_n 2, 1) := by decide +kernel
theorem dX7_welcomeAll_14 : decode cX7_welcomeAll 14 = .ok (.iconst 2, 1) := by decide +kernel
theorem dX7_welcomeAll_15 : decode cX7_welcomeAll 15 = .ok (.iload 5, 2) := by decide +kernel
theorem dX7_welcomeAll_17 : decode cX7_welcomeAll 17 = .ok (.imul, 1) := by decide +kernel
theorem dX7_welcomeAll_18 : decode cX7_welcomeAll 18 = .ok (.iconst 2, 1) := by decide +kernel
theorem dX7_welcomeAll_19 : decode cX7_welcomeAll 19 = .ok (.iadd, 1) := by decide +kernel
theorem dX7_welcomeAll_20 : decode cX7_welcomeAll 20 = .ok (.invokevirtual 297, 3) := by decide +kernel
theorem dX7_welcomeAll_23 : decode cX7_welcomeAll 23 = .ok (.ifCond .ne 6, 3) := by decide +kernel
theorem dX7_welcomeAll_26 : decode cX7_welcomeAll 26 = .ok (.bipush (-12), 2) := by decide +kernel
theorem dX7_welcomeAll_28 : decode cX7_welcomeAll 28 = .ok (.ireturn, 1) := by decide +kernel
theorem dX7_welcomeAll_29 : decode cX7_welcomeAll 29 = .ok (.aload_n 1, 1) := by decide +kernel
theorem dX7_welcomeAll_30 : decode cX7_welcomeAll 30 = .ok (.getfield 183, 3) := by decide +kernel
theorem dX7_welcomeAll_33 : decode cX7_welcomeAll 33 = .ok (.iload_n 2, 1) := by decide +kernel
theorem dX7_welcomeAll_34 : decode cX7_welcomeAll 34 = .ok (.iconst 2, 1) := by decide +kernel
theorem dX7_welcomeAll_35 : decode cX7_welcomeAll 35 = .ok (.iload 5, 2) := by decide +kernel
theorem dX7_welcomeAll_37 : decode cX7_welcomeAll 37 = .ok (.imul, 1) := by decide +kernel
theorem dX7_welcomeAll_38 : decode cX7_welcomeAll 38 = .ok (.iadd, 1) := by decide +kernel
theorem dX7_welcomeAll_39 : decode cX7_welcomeAll 39 = .ok (.iaload, 1) := by decide +kernel
theorem dX7_welcomeAll_40 : decode cX7_welcomeAll 40 = .ok (.istore 6, 2) := by decide +kernel
theorem dX7_welcomeAll_42 : decode cX7_welcomeAll 42 = .ok (.aload_n 1, 1) := by decide +kernel
theorem dX7_welcomeAll_43 : decode cX7_welcomeAll 43 = .ok (.getfield 183, 3) := by decide +kernel
theorem dX7_welcomeAll_46 : decode cX7_welcomeAll 46 = .ok (.iload_n 2, 1) := by decide +kernel
theorem dX7_welcomeAll_47 : decode cX7_welcomeAll 47 = .ok (.iconst 2, 1) := by decide +kernel
theorem dX7_welcomeAll_48 : decode cX7_welcomeAll 48 = .ok (.iload 5, 2) := by decide +kernel
theorem dX7_welcomeAll_50 : decode cX7_welcomeAll 50 = .ok (.imul, 1) := by decide +kernel
theorem dX7_welcomeAll_51 : decode cX7_welcomeAll 51 = .ok (.iadd, 1) := by decide +kernel
theorem dX7_welcomeAll_52 : decode cX7_welcomeAll 52 = .ok (.iconst 1, 1) := by decide +kernel
theorem dX7_welcomeAll_53 : decode cX7_welcomeAll 53 = .ok (.iadd, 1) := by decide +kernel
theorem dX7_welcomeAll_54 : decode cX7_welcomeAll 54 = .ok (.iaload, 1) := by decide +kernel
theorem dX7_welcomeAll_55 : decode cX7_welcomeAll 55 = .ok (.istore 7, 2) := by decide +kernel
theorem dX7_welcomeAll_57 : decode cX7_welcomeAll 57 = .ok (.iload 4, 2) := by decide +kernel
theorem dX7_welcomeAll_59 : decode cX7_welcomeAll 59 = .ok (.aload_n 0, 1) := by decide +kernel
theorem dX7_welcomeAll_60 : decode cX7_welcomeAll 60 = .ok (.iload 6, 2) := by decide +kernel
theorem dX7_welcomeAll_62 : decode cX7_welcomeAll 62 = .ok (.iload 7, 2) := by decide +kernel
theorem dX7_welcomeAll_64 : decode cX7_welcomeAll 64 = .ok (.invokevirtual 310, 3) := by decide +kernel
theorem dX7_welcomeAll_67 : decode cX7_welcomeAll 67 = .ok (.ifCond .lt 7, 3) := by decide +kernel
theorem dX7_welcomeAll_70 : decode cX7_welcomeAll 70 = .ok (.iconst 1, 1) := by decide +kernel
theorem dX7_welcomeAll_71 : decode cX7_welcomeAll 71 = .ok (.goto 4, 3) := by decide +kernel
theorem dX7_welcomeAll_74 : decode cX7_welcomeAll 74 = .ok (.iconst 0, 1) := by decide +kernel
theorem dX7_welcomeAll_75 : decode cX7_welcomeAll 75 = .ok (.iadd, 1) := by decide +kernel
theorem dX7_welcomeAll_76 : decode cX7_welcomeAll 76 = .ok (.istore 4, 2) := by decide +kernel
theorem dX7_welcomeAll_78 : decode cX7_welcomeAll 78 = .ok (.iinc 5 1, 3) := by decide +kernel
theorem dX7_welcomeAll_81 : decode cX7_welcomeAll 81 = .ok (.goto (-75), 3) := by decide +kernel
theorem dX7_welcomeAll_84 : decode cX7_welcomeAll 84 = .ok (.iload 4, 2) := by decide +kernel
theorem dX7_welcomeAll_86 : decode cX7_welcomeAll 86 = .ok (.ireturn, 1) := by decide +kernel
theorem dX7_taken_0 : decode cX7_taken 0 = .ok (.iload_n 2, 1) := by decide +kernel
theorem dX7_taken_1 : decode cX7_taken 1 = .ok (.invokestatic 93, 3) := by decide +kernel
theorem dX7_taken_4 : decode cX7_taken 4 = .ok (.ifCond .ne 6, 3) := by decide +kernel
theorem dX7_taken_7 : decode cX7_taken 7 = .ok (.bipush (-2), 2) := by decide +kernel
theorem dX7_taken_9 : decode cX7_taken 9 = .ok (.ireturn, 1) := by decide +kernel
theorem dX7_taken_10 : decode cX7_taken 10 = .ok (.aload_n 0, 1) := by decide +kernel
theorem dX7_taken_11 : decode cX7_taken 11 = .ok (.getfield 10, 3) := by decide +kernel
theorem dX7_taken_14 : decode cX7_taken 14 = .ok (.iload_n 1, 1) := by decide +kernel
theorem dX7_taken_15 : decode cX7_taken 15 = .ok (.invokevirtual 82, 3) := by decide +kernel
theorem dX7_taken_18 : decode cX7_taken 18 = .ok (.ifCond .ne 6, 3) := by decide +kernel
theorem dX7_taken_21 : decode cX7_taken 21 = .ok (.bipush (-11), 2) := by decide +kernel
theorem dX7_taken_23 : decode cX7_taken 23 = .ok (.ireturn, 1) := by decide +kernel
theorem dX7_taken_24 : decode cX7_taken 24 = .ok (.aload_n 0, 1) := by decide +kernel
theorem dX7_taken_25 : decode cX7_taken 25 = .ok (.getfield 10, 3) := by decide +kernel
theorem dX7_taken_28 : decode cX7_taken 28 = .ok (.getfield 118, 3) := by decide +kernel
theorem dX7_taken_31 : decode cX7_taken 31 = .ok (.iload_n 1, 1) := by decide +kernel
theorem dX7_taken_32 : decode cX7_taken 32 = .ok (.iaload, 1) := by decide +kernel
theorem dX7_taken_33 : decode cX7_taken 33 = .ok (.iload_n 2, 1) := by decide +kernel
theorem dX7_taken_34 : decode cX7_taken 34 = .ok (.invokestatic 313, 3) := by decide +kernel
theorem dX7_taken_37 : decode cX7_taken 37 = .ok (.ifCond .eq 15, 3) := by decide +kernel
theorem dX7_taken_40 : decode cX7_taken 40 = .ok (.aload_n 0, 1) := by decide +kernel
theorem dX7_taken_41 : decode cX7_taken 41 = .ok (.getfield 10, 3) := by decide +kernel
theorem dX7_taken_44 : decode cX7_taken 44 = .ok (.getfield 86, 3) := by decide +kernel
theorem dX7_taken_47 : decode cX7_taken 47 = .ok (.iload_n 1, 1) := by decide +kernel
theorem dX7_taken_48 : decode cX7_taken 48 = .ok (.iaload, 1) := by decide +kernel
theorem dX7_taken_49 : decode cX7_taken 49 = .ok (.goto 5, 3) := by decide +kernel
theorem dX7_taken_52 : decode cX7_taken 52 = .ok (.bipush (-13), 2) := by decide +kernel
theorem dX7_taken_54 : decode cX7_taken 54 = .ok (.ireturn, 1) := by decide +kernel
theorem dX7_isSheet_0 : decode cX7_isSheet 0 = .ok (.iload_n 0, 1) := by decide +kernel
theorem dX7_isSheet_1 : decode cX7_isSheet 1 = .ok (.iconst 0, 1) := by decide +kernel
theorem dX7_isSheet_2 : decode cX7_isSheet 2 = .ok (.iconst 3, 1) := by decide +kernel
theorem dX7_isSheet_3 : decode cX7_isSheet 3 = .ok (.invokestatic 72, 3) := by decide +kernel
theorem dX7_isSheet_6 : decode cX7_isSheet 6 = .ok (.ireturn, 1) := by decide +kernel
theorem dX7_isSort_0 : decode cX7_isSort 0 = .ok (.iload_n 0, 1) := by decide +kernel
theorem dX7_isSort_1 : decode cX7_isSort 1 = .ok (.iconst 0, 1) := by decide +kernel
theorem dX7_isSort_2 : decode cX7_isSort 2 = .ok (.iconst 2, 1) := by decide +kernel
theorem dX7_isSort_3 : decode cX7_isSort 3 = .ok (.invokestatic 72, 3) := by decide +kernel
theorem dX7_isSort_6 : decode cX7_isSort 6 = .ok (.ireturn, 1) := by decide +kernel
theorem dX7_isWithin_0 : decode cX7_isWithin 0 = .ok (.iload_n 0, 1) := by decide +kernel
theorem dX7_isWithin_1 : decode cX7_isWithin 1 = .ok (.iload_n 1, 1) := by decide +kernel
theorem dX7_isWithin_2 : decode cX7_isWithin 2 = .ok (.if_icmp .lt 12, 3) := by decide +kernel
theorem dX7_isWithin_5 : decode cX7_isWithin 5 = .ok (.iload_n 0, 1) := by decide +kernel
theorem dX7_isWithin_6 : decode cX7_isWithin 6 = .ok (.iload_n 2, 1) := by decide +kernel
theorem dX7_isWithin_7 : decode cX7_isWithin 7 = .ok (.if_icmp .gt 7, 3) := by decide +kernel
theorem dX7_isWithin_10 : decode cX7_isWithin 10 = .ok (.iconst 1, 1) := by decide +kernel
theorem dX7_isWithin_11 : decode cX7_isWithin 11 = .ok (.goto 4, 3) := by decide +kernel
theorem dX7_isWithin_14 : decode cX7_isWithin 14 = .ok (.iconst 0, 1) := by decide +kernel
theorem dX7_isWithin_15 : decode cX7_isWithin 15 = .ok (.ireturn, 1) := by decide +kernel
theorem dX7_bounded_0 : decode cX7_bounded 0 = .ok (.iload_n 0, 1) := by decide +kernel
theorem dX7_bounded_1 : decode cX7_bounded 1 = .ok (.iload_n 1, 1) := by decide +kernel
theorem dX7_bounded_2 : decode cX7_bounded 2 = .ok (.if_icmp .ge 7, 3) := by decide +kernel
theorem dX7_bounded_5 : decode cX7_bounded 5 = .ok (.iload_n 1, 1) := by decide +kernel
theorem dX7_bounded_6 : decode cX7_bounded 6 = .ok (.goto 13, 3) := by decide +kernel
theorem dX7_bounded_9 : decode cX7_bounded 9 = .ok (.iload_n 0, 1) := by decide +kernel
theorem dX7_bounded_10 : decode cX7_bounded 10 = .ok (.iload_n 2, 1) := by decide +kernel
theorem dX7_bounded_11 : decode cX7_bounded 11 = .ok (.if_icmp .le 7, 3) := by decide +kernel
theorem dX7_bounded_14 : decode cX7_bounded 14 = .ok (.iload_n 2, 1) := by decide +kernel
theorem dX7_bounded_15 : decode cX7_bounded 15 = .ok (.goto 4, 3) := by decide +kernel
theorem dX7_bounded_18 : decode cX7_bounded 18 = .ok (.iload_n 0, 1) := by decide +kernel
theorem dX7_bounded_19 : decode cX7_bounded 19 = .ok (.ireturn, 1) := by decide +kernel
theorem dX8_in_0 : decode cX8_in 0 = .ok (.lload_n 0, 1) := by decide +kernel
theorem dX8_in_1 : decode cX8_in 1 = .ok (.lload_n 2, 1) := by decide +kernel
theorem dX8_in_2 : decode cX8_in 2 = .ok (.lcmp, 1) := by decide +kernel
theorem dX8_in_3 : decode cX8_in 3 = .ok (.ifCond .lt 14, 3) := by decide +kernel
theorem dX8_in_6 : decode cX8_in 6 = .ok (.lload_n 0, 1) := by decide +kernel
theorem dX8_in_7 : decode cX8_in 7 = .ok (.lload 4, 2) := by decide +kernel
theorem dX8_in_9 : decode cX8_in 9 = .ok (.lcmp, 1) := by decide +kernel
theorem dX8_in_10 : decode cX8_in 10 = .ok (.ifCond .gt 7, 3) := by decide +kernel
theorem dX8_in_13 : decode cX8_in 13 = .ok (.iconst 1, 1) := by decide +kernel
theorem dX8_in_14 : decode cX8_in 14 = .ok (.goto 4, 3) := by decide +kernel
theorem dX8_in_17 : decode cX8_in 17 = .ok (.iconst 0, 1) := by decide +kernel
theorem dX8_in_18 : decode cX8_in 18 = .ok (.ireturn, 1) := by decide +kernel
theorem dX8_within_0 : decode cX8_within 0 = .ok (.iload_n 0, 1) := by decide +kernel
theorem dX8_within_1 : decode cX8_within 1 = .ok (.iload_n 1, 1) := by decide +kernel
theorem dX8_within_2 : decode cX8_within 2 = .ok (.if_icmp .ge 7, 3) := by decide +kernel
theorem dX8_within_5 : decode cX8_within 5 = .ok (.iload_n 1, 1) := by decide +kernel
theorem dX8_within_6 : decode cX8_within 6 = .ok (.goto 13, 3) := by decide +kernel
theorem dX8_within_9 : decode cX8_within 9 = .ok (.iload_n 0, 1) := by decide +kernel
theorem dX8_within_10 : decode cX8_within 10 = .ok (.iload_n 2, 1) := by decide +kernel
theorem dX8_within_11 : decode cX8_within 11 = .ok (.if_icmp .le 7, 3) := by decide +kernel
theorem dX8_within_14 : decode cX8_within 14 = .ok (.iload_n 2, 1) := by decide +kernel
theorem dX8_within_15 : decode cX8_within 15 = .ok (.goto 4, 3) := by decide +kernel
theorem dX8_within_18 : decode cX8_within 18 = .ok (.iload_n 0, 1) := by decide +kernel
theorem dX8_within_19 : decode cX8_within 19 = .ok (.ireturn, 1) := by decide +kernel
theorem dX8_init_0 : decode cX8_init 0 = .ok (.aload_n 0, 1) := by decide +kernel
theorem dX8_init_1 : decode cX8_init 1 = .ok (.invokespecial 7, 3) := by decide +kernel
theorem dX8_init_4 : decode cX8_init 4 = .ok (.aload_n 0, 1) := by decide +kernel
theorem dX8_init_5 : decode cX8_init 5 = .ok (.sipush 960, 3) := by decide +kernel
theorem dX8_init_8 : decode cX8_init 8 = .ok (.newarray .int, 2) := by decide +kernel
theorem dX8_init_10 : decode cX8_init 10 = .ok (.putfield 13, 3) := by decide +kernel
theorem dX8_init_13 : decode cX8_init 13 = .ok (.aload_n 0, 1) := by decide +kernel
theorem dX8_init_14 : decode cX8_init 14 = .ok (.bipush 6, 2) := by decide +kernel
theorem dX8_init_16 : decode cX8_init 16 = .ok (.newarray .int, 2) := by decide +kernel
theorem dX8_init_18 : decode cX8_init 18 = .ok (.putfield 17, 3) := by decide +kernel
theorem dX8_init_21 : decode cX8_init 21 = .ok (.aload_n 0, 1) := by decide +kernel
theorem dX8_init_22 : decode cX8_init 22 = .ok (.sipush 160, 3) := by decide +kernel
theorem dX8_init_25 : decode cX8_init 25 = .ok (.newarray .int, 2) := by decide +kernel
theorem dX8_init_27 : decode cX8_init 27 = .ok (.putfield 20, 3) := by decide +kernel
theorem dX8_init_30 : decode cX8_init 30 = .ok (.aload_n 0, 1) := by decide +kernel
theorem dX8_init_31 : decode cX8_init 31 = .ok (.iconst 1, 1) := by decide +kernel
theorem dX8_init_32 : decode cX8_init 32 = .ok (.putfield 23, 3) := by decide +kernel
theorem dX8_init_35 : decode cX8_init 35 = .ok (.aload_n 0, 1) := by decide +kernel
theorem dX8_init_36 : decode cX8_init 36 = .ok (.bipush 7, 2) := by decide +kernel
theorem dX8_init_38 : decode cX8_init 38 = .ok (.newarray .int, 2) := by decide +kernel
theorem dX8_init_40 : decode cX8_init 40 = .ok (.putfield 26, 3) := by decide +kernel
theorem dX8_init_43 : decode cX8_init 43 = .ok (.aload_n 0, 1) := by decide +kernel
theorem dX8_init_44 : decode cX8_init 44 = .ok (.bipush 7, 2) := by decide +kernel
theorem dX8_init_46 : decode cX8_init 46 = .ok (.newarray .int, 2) := by decide +kernel
theorem dX8_init_48 : decode cX8_init 48 = .ok (.putfield 29, 3) := by decide +kernel
theorem dX8_init_51 : decode cX8_init 51 = .ok (.aload_n 0, 1) := by decide +kernel
theorem dX8_init_52 : decode cX8_init 52 = .ok (.bipush 7, 2) := by decide +kernel
theorem dX8_init_54 : decode cX8_init 54 = .ok (.newarray .int, 2) := by decide +kernel
theorem dX8_init_56 : decode cX8_init 56 = .ok (.putfield 32, 3) := by decide +kernel
theorem dX8_init_59 : decode cX8_init 59 = .ok (.aload_n 0, 1) := by decide +kernel
theorem dX8_init_60 : decode cX8_init 60 = .ok (.bipush 49, 2) := by decide +kernel
theorem dX8_init_62 : decode cX8_init 62 = .ok (.newarray .int, 2) := by decide +kernel
theorem dX8_init_64 : decode cX8_init 64 = .ok (.putfield 35, 3) := by decide +kernel
theorem dX8_init_67 : decode cX8_init 67 = .ok (.aload_n 0, 1) := by decide +kernel
theorem dX8_init_68 : decode cX8_init 68 = .ok (.iconst (-1), 1) := by decide +kernel
theorem dX8_init_69 : decode cX8_init 69 = .ok (.putfield 38, 3) := by decide +kernel
theorem dX8_init_72 : decode cX8_init 72 = .ok (.aload_n 0, 1) := by decide +kernel
theorem dX8_init_73 : decode cX8_init 73 = .ok (.bipush 7, 2) := by decide +kernel
theorem dX8_init_75 : decode cX8_init 75 = .ok (.newarray .int, 2) := by decide +kernel
theorem dX8_init_77 : decode cX8_init 77 = .ok (.putfield 41, 3) := by decide +kernel
theorem dX8_init_80 : decode cX8_init 80 = .ok (.aload_n 0, 1) := by decide +kernel
theorem dX8_init_81 : decode cX8_init 81 = .ok (.bipush 49, 2) := by decide +kernel
theorem dX8_init_83 : decode cX8_init 83 = .ok (.newarray .int, 2) := by decide +kernel
theorem dX8_init_85 : decode cX8_init 85 = .ok (.putfield 44, 3) := by decide +kernel
theorem dX8_init_88 : decode cX8_init 88 = .ok (.aload_n 0, 1) := by decide +kernel
theorem dX8_init_89 : decode cX8_init 89 = .ok (.bipush 49, 2) := by decide +kernel
theorem dX8_init_91 : decode cX8_init 91 = .ok (.newarray .int, 2) := by decide +kernel
theorem dX8_init_93 : decode cX8_init 93 = .ok (.putfield 47, 3) := by decide +kernel
theorem dX8_init_96 : decode cX8_init 96 = .ok (.aload_n 0, 1) := by decide +kernel
theorem dX8_init_97 : decode cX8_init 97 = .ok (.bipush 7, 2) := by decide +kernel
theorem dX8_init_99 : decode cX8_init 99 = .ok (.newarray .int, 2) := by decide +kernel
theorem dX8_init_101 : decode cX8_init 101 = .ok (.putfield 50, 3) := by decide +kernel
theorem dX8_init_104 : decode cX8_init 104 = .ok (.aload_n 0, 1) := by decide +kernel
theorem dX8_init_105 : decode cX8_init 105 = .ok (.bipush 7, 2) := by decide +kernel
theorem dX8_init_107 : decode cX8_init 107 = .ok (.newarray .int, 2) := by decide +kernel
theorem dX8_init_109 : decode cX8_init 109 = .ok (.putfield 53, 3) := by decide +kernel
theorem dX8_init_112 : decode cX8_init 112 = .ok (.aload_n 0, 1) := by decide +kernel
theorem dX8_init_113 : decode cX8_init 113 = .ok (.bipush 49, 2) := by decide +kernel
theorem dX8_init_115 : decode cX8_init 115 = .ok (.newarray .int, 2) := by decide +kernel
theorem dX8_init_117 : decode cX8_init 117 = .ok (.putfield 56, 3) := by decide +kernel
theorem dX8_init_120 : decode cX8_init 120 = .ok (.aload_n 0, 1) := by decide +kernel
theorem dX8_init_121 : decode cX8_init 121 = .ok (.iconst (-1), 1) := by decide +kernel
theorem dX8_init_122 : decode cX8_init 122 = .ok (.putfield 59, 3) := by decide +kernel
theorem dX8_init_125 : decode cX8_init 125 = .ok (.aload_n 0, 1) := by decide +kernel
theorem dX8_init_126 : decode cX8_init 126 = .ok (.iconst 4, 1) := by decide +kernel
theorem dX8_init_127 : decode cX8_init 127 = .ok (.newarray .boolean, 2) := by decide +kernel
theorem dX8_init_129 : decode cX8_init 129 = .ok (.putfield 62, 3) := by decide +kernel
theorem dX8_init_132 : decode cX8_init 132 = .ok (.aload_n 0, 1) := by decide +kernel
theorem dX8_init_133 : decode cX8_init 133 = .ok (.iconst 4, 1) := by decide +kernel
theorem dX8_init_134 : decode cX8_init 134 = .ok (.newarray .int, 2) := by decide +kernel
theorem dX8_init_136 : decode cX8_init 136 = .ok (.putfield 66, 3) := by decide +kernel
theorem dX8_init_139 : decode cX8_init 139 = .ok (.aload_n 0, 1) := by decide +kernel
theorem dX8_init_140 : decode cX8_init 140 = .ok (.iconst 4, 1) := by decide +kernel
theorem dX8_init_141 : decode cX8_init 141 = .ok (.newarray .int, 2) := by decide +kernel
theorem dX8_init_143 : decode cX8_init 143 = .ok (.putfield 69, 3) := by decide +kernel
theorem dX8_init_146 : decode cX8_init 146 = .ok (.aload_n 0, 1) := by decide +kernel
theorem dX8_init_147 : decode cX8_init 147 = .ok (.sipush 160, 3) := by decide +kernel
theorem dX8_init_150 : decode cX8_init 150 = .ok (.newarray .int, 2) := by decide +kernel
theorem dX8_init_152 : decode cX8_init 152 = .ok (.putfield 72, 3) := by decide +kernel
theorem dX8_init_155 : decode cX8_init 155 = .ok (.aload_n 0, 1) := by decide +kernel
theorem dX8_init_156 : decode cX8_init 156 = .ok (.iconst 0, 1) := by decide +kernel
theorem dX8_init_157 : decode cX8_init 157 = .ok (.bipush 102, 2) := by decide +kernel
theorem dX8_init_159 : decode cX8_init 159 = .ok (.bipush 111, 2) := by decide +kernel
theorem dX8_init_161 : decode cX8_init 161 = .ok (.bipush 114, 2) := by decide +kernel
theorem dX8_init_163 : decode cX8_init 163 = .ok (.bipush 103, 2) := by decide +kernel
theorem dX8_init_165 : decode cX8_init 165 = .ok (.bipush 105, 2) := by decide +kernel
theorem dX8_init_167 : decode cX8_init 167 = .ok (.bipush 118, 2) := by decide +kernel
theorem dX8_init_169 : decode cX8_init 169 = .ok (.bipush 101, 2) := by decide +kernel
theorem dX8_init_171 : decode cX8_init 171 = .ok (.bipush 115, 2) := by decide +kernel
theorem dX8_init_173 : decode cX8_init 173 = .ok (.invokevirtual 75, 3) := by decide +kernel
theorem dX8_init_176 : decode cX8_init 176 = .ok (.aload_n 0, 1) := by decide +kernel
theorem dX8_init_177 : decode cX8_init 177 = .ok (.bipush 8, 2) := by decide +kernel
theorem dX8_init_179 : decode cX8_init 179 = .ok (.bipush 32, 2) := by decide +kernel
theorem dX8_init_181 : decode cX8_init 181 = .ok (.bipush 53, 2) := by decide +kernel
theorem dX8_init_183 : decode cX8_init 183 = .ok (.bipush 32, 2) := by decide +kernel
theorem dX8_init_185 : decode cX8_init 185 = .ok (.bipush 59, 2) := by decide +kernel
theorem dX8_init_187 : decode cX8_init 187 = .ok (.bipush 32, 2) := by decide +kernel
theorem dX8_init_189 : decode cX8_init 189 = .ok (.bipush 108, 2) := by decide +kernel
theorem dX8_init_191 : decode cX8_init 191 = .ok (.bipush 101, 2) := by decide +kernel
theorem dX8_init_193 : decode cX8_init 193 = .ok (.bipush 110, 2) := by decide +kernel
theorem dX8_init_195 : decode cX8_init 195 = .ok (.invokevirtual 75, 3) := by decide +kernel
theorem dX8_init_198 : decode cX8_init 198 = .ok (.aload_n 0, 1) := by decide +kernel
theorem dX8_init_199 : decode cX8_init 199 = .ok (.bipush 16, 2) := by decide +kernel
theorem dX8_init_201 : decode cX8_init 201 = .ok (.bipush 100, 2) := by decide +kernel
theorem dX8_init_203 : decode cX8_init 203 = .ok (.bipush 115, 2) := by decide +kernel
theorem dX8_init_205 : decode cX8_init 205 = .ok (.bipush 32, 2) := by decide +kernel
theorem dX8_init_207 : decode cX8_init 207 = .ok (.bipush 50, 2) := by decide +kernel
theorem dX8_init_209 : decode cX8_init 209 = .ok (.bipush 32, 2) := by decide +kernel
theorem dX8_init_211 : decode cX8_init 211 = .ok (.bipush 59, 2) := by decide +kernel
theorem dX8_init_213 : decode cX8_init 213 = .ok (.bipush 32, 2) := by decide +kernel
theorem dX8_init_215 : decode cX8_init 215 = .ok (.bipush 106, 2) := by decide +kernel
theorem dX8_init_217 : decode cX8_init 217 = .ok (.invokevirtual 75, 3) := by decide +kernel
theorem dX8_init_220 : decode cX8_init 220 = .ok (.aload_n 0, 1) := by decide +kernel
theorem dX8_init_221 : decode cX8_init 221 = .ok (.bipush 24, 2) := by decide +kernel
theorem dX8_init_223 : decode cX8_init 223 = .ok (.bipush 111, 2) := by decide +kernel
theorem dX8_init_225 : decode cX8_init 225 = .ok (.bipush 121, 2) := by decide +kernel
theorem dX8_init_227 : decode cX8_init 227 = .ok (.bipush 115, 2) := by decide +kernel
theorem dX8_init_229 : decode cX8_init 229 = .ok (.bipush 32, 2) := by decide +kernel
theorem dX8_init_231 : decode cX8_init 231 = .ok (.bipush 49, 2) := by decide +kernel
theorem dX8_init_233 : decode cX8_init 233 = .ok (.bipush 32, 2) := by decide +kernel
theorem dX8_init_235 : decode cX8_init 235 = .ok (.bipush 59, 2) := by decide +kernel
theorem dX8_init_237 : decode cX8_init 237 = .ok (.bipush 32, 2) := by decide +kernel
theorem dX8_init_239 : decode cX8_init 239 = .ok (.invokevirtual 75, 3) := by decide +kernel
theorem dX8_init_242 : decode cX8_init 242 = .ok (.aload_n 0, 1) := by decide +kernel
theorem dX8_init_243 : decode cX8_init 243 = .ok (.getfield 17, 3) := by decide +kernel
theorem dX8_init_246 : decode cX8_init 246 = .ok (.iconst 0, 1) := by decide +kernel
theorem dX8_init_247 : decode cX8_init 247 = .ok (.bipush 32, 2) := by decide +kernel
theorem dX8_init_249 : decode cX8_init 249 = .ok (.iastore, 1) := by decide +kernel
theorem dX8_init_250 : decode cX8_init 250 = .ok (.aload_n 0, 1) := by decide +kernel
theorem dX8_init_251 : decode cX8_init 251 = .ok (.iconst 1, 1) := by decide +kernel
theorem dX8_init_252 : decode cX8_init 252 = .ok (.putfield 79, 3) := by decide +kernel
theorem dX8_init_255 : decode cX8_init 255 = .ok (.return_, 1) := by decide +kernel
theorem dX8_spell_0 : decode cX8_spell 0 = .ok (.aload_n 0, 1) := by decide +kernel
theorem dX8_spell_1 : decode cX8_spell 1 = .ok (.getfield 13, 3) := by decide +kernel
theorem dX8_spell_4 : decode cX8_spell 4 = .ok (.iload_n 1, 1) := by decide +kernel
theorem dX8_spell_5 : decode cX8_spell 5 = .ok (.iload_n 2, 1) := by decide +kernel
theorem dX8_spell_6 : decode cX8_spell 6 = .ok (.iastore, 1) := by decide +kernel
theorem dX8_spell_7 : decode cX8_spell 7 = .ok (.aload_n 0, 1) := by decide +kernel
theorem dX8_spell_8 : decode cX8_spell 8 = .ok (.getfield 13, 3) := by decide +kernel
theorem dX8_spell_11 : decode cX8_spell 11 = .ok (.iload_n 1, 1) := by decide +kernel
theorem dX8_spell_12 : decode cX8_spell 12 = .ok (.iconst 1, 1) := by decide +kernel
theorem dX8_spell_13 : decode cX8_spell 13 = .ok (.iadd, 1) := by decide +kernel
theorem dX8_spell_14 : decode cX8_spell 14 = .ok (.iload_n 3, 1) := by decide +kernel
theorem dX8_spell_15 : decode cX8_spell 15 = .ok (.iastore, 1) := by decide +kernel
theorem dX8_spell_16 : decode cX8_spell 16 = .ok (.aload_n 0, 1) := by decide +kernel
theorem dX8_spell_17 : decode cX8_spell 17 = .ok (.getfield 13, 3) := by decide +kernel
theorem dX8_spell_20 : decode cX8_spell 20 = .ok (.iload_n 1, 1) := by decide +kernel
theorem dX8_spell_21 : decode cX8_spell 21 = .ok (.iconst 2, 1) := by decide +kernel
theorem dX8_spell_22 : decode cX8_spell 22 = .ok (.iadd, 1) := by decide +kernel
theorem dX8_spell_23 : decode cX8_spell 23 = .ok (.iload 4, 2) := by decide +kernel
theorem dX8_spell_25 : decode cX8_spell 25 = .ok (.iastore, 1) := by decide +kernel
theorem dX8_spell_26 : decode cX8_spell 26 = .ok (.aload_n 0, 1) := by decide +kernel
theorem dX8_spell_27 : decode cX8_spell 27 = .ok (.getfield 13, 3) := by decide +kernel
theorem dX8_spell_30 : decode cX8_spell 30 = .ok (.iload_n 1, 1) := by decide +kernel
theorem dX8_spell_31 : decode cX8_spell 31 = .ok (.iconst 3, 1) := by decide +kernel
theorem dX8_spell_32 : decode cX8_spell 32 = .ok (.iadd, 1) := by decide +kernel
theorem dX8_spell_33 : decode cX8_spell 33 = .ok (.iload 5, 2) := by decide +kernel
theorem dX8_spell_35 : decode cX8_spell 35 = .ok (.iastore, 1) := by decide +kernel
theorem dX8_spell_36 : decode cX8_spell 36 = .ok (.aload_n 0, 1) := by decide +kernel
theorem dX8_spell_37 : decode cX8_spell 37 = .ok (.getfield 13, 3) := by decide +kernel
theorem dX8_spell_40 : decode cX8_spell 40 = .ok (.iload_n 1, 1) := by decide +kernel
theorem dX8_spell_41 : decode cX8_spell 41 = .ok (.iconst 4, 1) := by decide +kernel
theorem dX8_spell_42 : decode cX8_spell 42 = .ok (.iadd, 1) := by decide +kernel
theorem dX8_spell_43 : decode cX8_spell 43 = .ok (.iload 6, 2) := by decide +kernel
theorem dX8_spell_45 : decode cX8_spell 45 = .ok (.iastore, 1) := by decide +kernel
theorem dX8_spell_46 : decode cX8_spell 46 = .ok (.aload_n 0, 1) := by decide +kernel
theorem dX8_spell_47 : decode cX8_spell 47 = .ok (.getfield 13, 3) := by decide +kernel
theorem dX8_spell_50 : decode cX8_spell 50 = .ok (.iload_n 1, 1) := by decide +kernel
theorem dX8_spell_51 : decode cX8_spell 51 = .ok (.iconst 5, 1) := by decide +kernel
theorem dX8_spell_52 : decode cX8_spell 52 = .ok (.iadd, 1) := by decide +kernel
theorem dX8_spell_53 : decode cX8_spell 53 = .ok (.iload 7, 2) := by decide +kernel
theorem dX8_spell_55 : decode cX8_spell 55 = .ok (.iastore, 1) := by decide +kernel
theorem dX8_spell_56 : decode cX8_spell 56 = .ok (.aload_n 0, 1) := by decide +kernel
theorem dX8_spell_57 : decode cX8_spell 57 = .ok (.getfield 13, 3) := by decide +kernel
theorem dX8_spell_60 : decode cX8_spell 60 = .ok (.iload_n 1, 1) := by decide +kernel
theorem dX8_spell_61 : decode cX8_spell 61 = .ok (.bipush 6, 2) := by decide +kernel
theorem dX8_spell_63 : decode cX8_spell 63 = .ok (.iadd, 1) := by decide +kernel
theorem dX8_spell_64 : decode cX8_spell 64 = .ok (.iload 8, 2) := by decide +kernel
theorem dX8_spell_66 : decode cX8_spell 66 = .ok (.iastore, 1) := by decide +kernel
theorem dX8_spell_67 : decode cX8_spell 67 = .ok (.aload_n 0, 1) := by decide +kernel
theorem dX8_spell_68 : decode cX8_spell 68 = .ok (.getfield 13, 3) := by decide +kernel
theorem dX8_spell_71 : decode cX8_spell 71 = .ok (.iload_n 1, 1) := by decide +kernel
theorem dX8_spell_72 : decode cX8_spell 72 = .ok (.bipush 7, 2) := by decide +kernel
theorem dX8_spell_74 : decode cX8_spell 74 = .ok (.iadd, 1) := by decide +kernel
theorem dX8_spell_75 : decode cX8_spell 75 = .ok (.iload 9, 2) := by decide +kernel
theorem dX8_spell_77 : decode cX8_spell 77 = .ok (.iastore, 1) := by decide +kernel
theorem dX8_spell_78 : decode cX8_spell 78 = .ok (.return_, 1) := by decide +kernel
theorem dX8_isOne_0 : decode cX8_isOne 0 = .ok (.iload_n 1, 1) := by decide +kernel
theorem dX8_isOne_1 : decode cX8_isOne 1 = .ok (.i2l, 1) := by decide +kernel
theorem dX8_isOne_2 : decode cX8_isOne 2 = .ok (.lconst 0, 1) := by decide +kernel
theorem dX8_isOne_3 : decode cX8_isOne 3 = .ok (.aload_n 0, 1) := by decide +kernel
theorem dX8_isOne_4 : decode cX8_isOne 4 = .ok (.getfield 82, 3) := by decide +kernel
theorem dX8_isOne_7 : decode cX8_isOne 7 = .ok (.iconst 1, 1) := by decide +kernel
theorem dX8_isOne_8 : decode cX8_isOne 8 = .ok (.isub, 1) := by decide +kernel
theorem dX8_isOne_9 : decode cX8_isOne 9 = .ok (.i2l, 1) := by decide +kernel
theorem dX8_isOne_10 : decode cX8_isOne 10 = .ok (.invokestatic 85, 3) := by decide +kernel
theorem dX8_isOne_13 : decode cX8_isOne 13 = .ok (.ireturn, 1) := by decide +kernel
theorem dX8_isValue_0 : decode cX8_isValue 0 = .ok (.iload_n 1, 1) := by decide +kernel
theorem dX8_isValue_1 : decode cX8_isValue 1 = .ok (.iconst 3, 1) := by decide +kernel
theorem dX8_isValue_2 : decode cX8_isValue 2 = .ok (.if_icmp .ne 27, 3) := by decide +kernel
theorem dX8_isValue_5 : decode cX8_isValue 5 = .ok (.iload_n 3, 1) := by decide +kernel
theorem dX8_isValue_6 : decode cX8_isValue 6 = .ok (.iconst (-1), 1) := by decide +kernel
theorem dX8_isValue_7 : decode cX8_isValue 7 = .ok (.if_icmp .eq 16, 3) := by decide +kernel
theorem dX8_isValue_10 : decode cX8_isValue 10 = .ok (.aload_n 0, 1) := by decide +kernel
theorem dX8_isValue_11 : decode cX8_isValue 11 = .ok (.iload_n 3, 1) := by decide +kernel
theorem dX8_isValue_12 : decode cX8_isValue 12 = .ok (.invokevirtual 89, 3) := by decide +kernel
theorem dX8_isValue_15 : decode cX8_isValue 15 = .ok (.ifCond .eq 12, 3) := by decide +kernel
theorem dX8_isValue_18 : decode cX8_isValue 18 = .ok (.iload_n 3, 1) := by decide +kernel
theorem dX8_isValue_19 : decode cX8_isValue 19 = .ok (.iload_n 2, 1) := by decide +kernel
theorem dX8_isValue_20 : decode cX8_isValue 20 = .ok (.if_icmp .eq 7, 3) := by decide +kernel
theorem dX8_isValue_23 : decode cX8_isValue 23 = .ok (.iconst 1, 1) := by decide +kernel
theorem dX8_isValue_24 : decode cX8_isValue 24 = .ok (.goto 4, 3) := by decide +kernel
theorem dX8_isValue_27 : decode cX8_isValue 27 = .ok (.iconst 0, 1) := by decide +kernel
theorem dX8_isValue_28 : decode cX8_isValue 28 = .ok (.ireturn, 1) := by decide +kernel
theorem dX8_isValue_29 : decode cX8_isValue 29 = .ok (.iload_n 3, 1) := by decide +kernel
theorem dX8_isValue_30 : decode cX8_isValue 30 = .ok (.i2l, 1) := by decide +kernel
theorem dX8_isValue_31 : decode cX8_isValue 31 = .ok (.lconst 0, 1) := by decide +kernel
theorem dX8_isValue_32 : decode cX8_isValue 32 = .ok (.iload_n 1, 1) := by decide +kernel
theorem dX8_isValue_33 : decode cX8_isValue 33 = .ok (.ifCond .ne 7, 3) := by decide +kernel
theorem dX8_isValue_36 : decode cX8_isValue 36 = .ok (.lconst 1, 1) := by decide +kernel
theorem dX8_isValue_37 : decode cX8_isValue 37 = .ok (.goto 17, 3) := by decide +kernel
theorem dX8_isValue_40 : decode cX8_isValue 40 = .ok (.iload_n 1, 1) := by decide +kernel
theorem dX8_isValue_41 : decode cX8_isValue 41 = .ok (.iconst 1, 1) := by decide +kernel
theorem dX8_isValue_42 : decode cX8_isValue 42 = .ok (.if_icmp .ne 9, 3) := by decide +kernel
theorem dX8_isValue_45 : decode cX8_isValue 45 = .ok (.ldc2_w 93, 3) := by decide +kernel
theorem dX8_isValue_48 : decode cX8_isValue 48 = .ok (.goto 6, 3) := by decide +kernel
theorem dX8_isValue_51 : decode cX8_isValue 51 = .ok (.ldc2_w 95, 3) := by decide +kernel
theorem dX8_isValue_54 : decode cX8_isValue 54 = .ok (.invokestatic 85, 3) := by decide +kernel
theorem dX8_isValue_57 : decode cX8_isValue 57 = .ok (.ireturn, 1) := by decide +kernel
theorem dX8_set_0 : decode cX8_set 0 = .ok (.iload_n 1, 1) := by decide +kernel
theorem dX8_set_1 : decode cX8_set 1 = .ok (.i2l, 1) := by decide +kernel
theorem dX8_set_2 : decode cX8_set 2 = .ok (.lconst 0, 1) := by decide +kernel
theorem dX8_set_3 : decode cX8_set 3 = .ok (.ldc2_w 97, 3) := by decide +kernel
theorem dX8_set_6 : decode cX8_set 6 = .ok (.invokestatic 85, 3) := by decide +kernel
theorem dX8_set_9 : decode cX8_set 9 = .ok (.ifCond .eq 26, 3) := by decide +kernel
theorem dX8_set_12 : decode cX8_set 12 = .ok (.iload_n 1, 1) := by decide +kernel
theorem dX8_set_13 : decode cX8_set 13 = .ok (.iconst 1, 1) := by decide +kernel
theorem dX8_set_14 : decode cX8_set 14 = .ok (.if_icmp .le 11, 3) := by decide +kernel
theorem dX8_set_17 : decode cX8_set 17 = .ok (.aload_n 0, 1) := by decide +kernel
theorem dX8_set_18 : decode cX8_set 18 = .ok (.iload_n 2, 1) := by decide +kernel
theorem dX8_set_19 : decode cX8_set 19 = .ok (.invokevirtual 89, 3) := by decide +kernel
theorem dX8_set_22 : decode cX8_set 22 = .ok (.ifCond .eq 13, 3) := by decide +kernel
theorem dX8_set_25 : decode cX8_set 25 = .ok (.aload_n 0, 1) := by decide +kernel
theorem dX8_set_26 : decode cX8_set 26 = .ok (.iload_n 1, 1) := by decide +kernel
theorem dX8_set_27 : decode cX8_set 27 = .ok (.iload_n 2, 1) := by decide +kernel
theorem dX8_set_28 : decode cX8_set 28 = .ok (.iload_n 3, 1) := by decide +kernel
theorem dX8_set_29 : decode cX8_set 29 = .ok (.invokevirtual 99, 3) := by decide +kernel
theorem dX8_set_32 : decode cX8_set 32 = .ok (.ifCond .ne 6, 3) := by decide +kernel
theorem dX8_set_35 : decode cX8_set 35 = .ok (.bipush (-2), 2) := by decide +kernel
theorem dX8_set_37 : decode cX8_set 37 = .ok (.ireturn, 1) := by decide +kernel
theorem dX8_set_38 : decode cX8_set 38 = .ok (.aload_n 0, 1) := by decide +kernel
theorem dX8_set_39 : decode cX8_set 39 = .ok (.iload_n 2, 1) := by decide +kernel
theorem dX8_set_40 : decode cX8_set 40 = .ok (.iload_n 1, 1) := by decide +kernel
theorem dX8_set_41 : decode cX8_set 41 = .ok (.invokevirtual 103, 3) := by decide +kernel
theorem dX8_set_44 : decode cX8_set 44 = .ok (.istore 4, 2) := by decide +kernel
theorem dX8_set_46 : decode cX8_set 46 = .ok (.aload_n 0, 1) := by decide +kernel
theorem dX8_set_47 : decode cX8_set 47 = .ok (.iload_n 1, 1) := by decide +kernel
theorem dX8_set_48 : decode cX8_set 48 = .ok (.iload_n 2, 1) := by decide +kernel
theorem dX8_set_49 : decode cX8_set 49 = .ok (.iload_n 3, 1) := by decide +kernel
theorem dX8_set_50 : decode cX8_set 50 = .ok (.invokevirtual 107, 3) := by decide +kernel
theorem dX8_set_53 : decode cX8_set 53 = .ok (.iload 4, 2) := by decide +kernel
theorem dX8_set_55 : decode cX8_set 55 = .ok (.ireturn, 1) := by decide +kernel
theorem dX8_lays_0 : decode cX8_lays 0 = .ok (.iload_n 1, 1) := by decide +kernel
theorem dX8_lays_1 : decode cX8_lays 1 = .ok (.ifCond .ne 11, 3) := by decide +kernel
theorem dX8_lays_4 : decode cX8_lays 4 = .ok (.aload_n 0, 1) := by decide +kernel
theorem dX8_lays_5 : decode cX8_lays 5 = .ok (.iload_n 3, 1) := by decide +kernel
theorem dX8_lays_6 : decode cX8_lays 6 = .ok (.putfield 23, 3) := by decide +kernel
theorem dX8_lays_9 : decode cX8_lays 9 = .ok (.goto 53, 3) := by decide +kernel
theorem dX8_lays_12 : decode cX8_lays 12 = .ok (.iload_n 1, 1) := by decide +kernel
theorem dX8_lays_13 : decode cX8_lays 13 = .ok (.iconst 1, 1) := by decide +kernel
theorem dX8_lays_14 : decode cX8_lays 14 = .ok (.if_icmp .ne 11, 3) := by decide +kernel
theorem dX8_lays_17 : decode cX8_lays 17 = .ok (.aload_n 0, 1) := by decide +kernel
theorem dX8_lays_18 : decode cX8_lays 18 = .ok (.iload_n 3, 1) := by decide +kernel
theorem dX8_lays_19 : decode cX8_lays 19 = .ok (.putfield 111, 3) := by decide +kernel
theorem dX8_lays_22 : decode cX8_lays 22 = .ok (.goto 40, 3) := by decide +kernel
theorem dX8_lays_25 : decode cX8_lays 25 = .ok (.iload_n 1, 1) := by decide +kernel
theorem dX8_lays_26 : decode cX8_lays 26 = .ok (.iconst 2, 1) := by decide +kernel
theorem dX8_lays_27 : decode cX8_lays 27 = .ok (.if_icmp .ne 13, 3) := by decide +kernel
theorem dX8_lays_30 : decode cX8_lays 30 = .ok (.aload_n 0, 1) := by decide +kernel
theorem dX8_lays_31 : decode cX8_lays 31 = .ok (.getfield 29, 3) := by decide +kernel
theorem dX8_lays_34 : decode cX8_lays 34 = .ok (.iload_n 2, 1) := by decide +kernel
theorem dX8_lays_35 : decode cX8_lays 35 = .ok (.iload_n 3, 1) := by decide +kernel
theorem dX8_lays_36 : decode cX8_lays 36 = .ok (.iastore, 1) := by decide +kernel
theorem dX8_lays_37 : decode cX8_lays 37 = .ok (.goto 25, 3) := by decide +kernel
theorem dX8_lays_40 : decode cX8_lays 40 = .ok (.iload_n 1, 1) := by decide +kernel
theorem dX8_lays_41 : decode cX8_lays 41 = .ok (.iconst 3, 1) := by decide +kernel
theorem dX8_lays_42 : decode cX8_lays 42 = .ok (.if_icmp .ne 13, 3) := by decide +kernel
theorem dX8_lays_45 : decode cX8_lays 45 = .ok (.aload_n 0, 1) := by decide +kernel
theorem dX8_lays_46 : decode cX8_lays 46 = .ok (.getfield 32, 3) := by decide +kernel
theorem dX8_lays_49 : decode cX8_lays 49 = .ok (.iload_n 2, 1) := by decide +kernel
theorem dX8_lays_50 : decode cX8_lays 50 = .ok (.iload_n 3, 1) := by decide +kernel
theorem dX8_lays_51 : decode cX8_lays 51 = .ok (.iastore, 1) := by decide +kernel
theorem dX8_lays_52 : decode cX8_lays 52 = .ok (.goto 10, 3) := by decide +kernel
theorem dX8_lays_55 : decode cX8_lays 55 = .ok (.aload_n 0, 1) := by decide +kernel
theorem dX8_lays_56 : decode cX8_lays 56 = .ok (.getfield 26, 3) := by decide +kernel
theorem dX8_lays_59 : decode cX8_lays 59 = .ok (.iload_n 2, 1) := by decide +kernel
theorem dX8_lays_60 : decode cX8_lays 60 = .ok (.iload_n 3, 1) := by decide +kernel
theorem dX8_lays_61 : decode cX8_lays 61 = .ok (.iastore, 1) := by decide +kernel
theorem dX8_lays_62 : decode cX8_lays 62 = .ok (.return_, 1) := by decide +kernel
theorem dX8_guest_0 : decode cX8_guest 0 = .ok (.iload_n 1, 1) := by decide +kernel
theorem dX8_guest_1 : decode cX8_guest 1 = .ok (.i2l, 1) := by decide +kernel
theorem dX8_guest_2 : decode cX8_guest 2 = .ok (.lconst 0, 1) := by decide +kernel
theorem dX8_guest_3 : decode cX8_guest 3 = .ok (.ldc2_w 114, 3) := by decide +kernel
theorem dX8_guest_6 : decode cX8_guest 6 = .ok (.invokestatic 85, 3) := by decide +kernel
theorem dX8_guest_9 : decode cX8_guest 9 = .ok (.ifCond .eq 15, 3) := by decide +kernel
theorem dX8_guest_12 : decode cX8_guest 12 = .ok (.iload_n 2, 1) := by decide +kernel
theorem dX8_guest_13 : decode cX8_guest 13 = .ok (.i2l, 1) := by decide +kernel
theorem dX8_guest_14 : decode cX8_guest 14 = .ok (.lconst 0, 1) := by decide +kernel
theorem dX8_guest_15 : decode cX8_guest 15 = .ok (.ldc2_w 95, 3) := by decide +kernel
theorem dX8_guest_18 : decode cX8_guest 18 = .ok (.invokestatic 85, 3) := by decide +kernel
theorem dX8_guest_21 : decode cX8_guest 21 = .ok (.ifCond .ne 6, 3) := by decide +kernel
theorem dX8_guest_24 : decode cX8_guest 24 = .ok (.bipush (-2), 2) := by decide +kernel
theorem dX8_guest_26 : decode cX8_guest 26 = .ok (.ireturn, 1) := by decide +kernel
theorem dX8_guest_27 : decode cX8_guest 27 = .ok (.aload_n 0, 1) := by decide +kernel
theorem dX8_guest_28 : decode cX8_guest 28 = .ok (.getfield 82, 3) := by decide +kernel
theorem dX8_guest_31 : decode cX8_guest 31 = .ok (.bipush 7, 2) := by decide +kernel
theorem dX8_guest_33 : decode cX8_guest 33 = .ok (.if_icmp .ne 6, 3) := by decide +kernel
theorem dX8_guest_36 : decode cX8_guest 36 = .ok (.bipush (-4), 2) := by decide +kernel
theorem dX8_guest_38 : decode cX8_guest 38 = .ok (.ireturn, 1) := by decide +kernel
theorem dX8_guest_39 : decode cX8_guest 39 = .ok (.aload_n 0, 1) := by decide +kernel
theorem dX8_guest_40 : decode cX8_guest 40 = .ok (.getfield 26, 3) := by decide +kernel
theorem dX8_guest_43 : decode cX8_guest 43 = .ok (.aload_n 0, 1) := by decide +kernel
theorem dX8_guest_44 : decode cX8_guest 44 = .ok (.getfield 82, 3) := by decide +kernel
theorem dX8_guest_47 : decode cX8_guest 47 = .ok (.iload_n 1, 1) := by decide +kernel
theorem dX8_guest_48 : decode cX8_guest 48 = .ok (.iastore, 1) := by decide +kernel
theorem dX8_guest_49 : decode cX8_guest 49 = .ok (.aload_n 0, 1) := by decide +kernel
theorem dX8_guest_50 : decode cX8_guest 50 = .ok (.getfield 29, 3) := by decide +kernel
theorem dX8_guest_53 : decode cX8_guest 53 = .ok (.aload_n 0, 1) := by decide +kernel
theorem dX8_guest_54 : decode cX8_guest 54 = .ok (.getfield 82, 3) := by decide +kernel
theorem dX8_guest_57 : decode cX8_guest 57 = .ok (.iload_n 2, 1) := by decide +kernel
theorem dX8_guest_58 : decode cX8_guest 58 = .ok (.iastore, 1) := by decide +kernel
theorem dX8_guest_59 : decode cX8_guest 59 = .ok (.aload_n 0, 1) := by decide +kernel
theorem dX8_guest_60 : decode cX8_guest 60 = .ok (.getfield 32, 3) := by decide +kernel
theorem dX8_guest_63 : decode cX8_guest 63 = .ok (.aload_n 0, 1) := by decide +kernel
theorem dX8_guest_64 : decode cX8_guest 64 = .ok (.getfield 82, 3) := by decide +kernel
theorem dX8_guest_67 : decode cX8_guest 67 = .ok (.iconst (-1), 1) := by decide +kernel
theorem dX8_guest_68 : decode cX8_guest 68 = .ok (.iastore, 1) := by decide +kernel
theorem dX8_guest_69 : decode cX8_guest 69 = .ok (.iconst 0, 1) := by decide +kernel
theorem dX8_guest_70 : decode cX8_guest 70 = .ok (.istore_n 3, 1) := by decide +kernel
theorem dX8_guest_71 : decode cX8_guest 71 = .ok (.iload_n 3, 1) := by decide +kernel
theorem dX8_guest_72 : decode cX8_guest 72 = .ok (.bipush 7, 2) := by decide +kernel
theorem dX8_guest_74 : decode cX8_guest 74 = .ok (.if_icmp .ge 39, 3) := by decide +kernel
theorem dX8_guest_77 : decode cX8_guest 77 = .ok (.aload_n 0, 1) := by decide +kernel
theorem dX8_guest_78 : decode cX8_guest 78 = .ok (.getfield 35, 3) := by decide +kernel
theorem dX8_guest_81 : decode cX8_guest 81 = .ok (.bipush 7, 2) := by decide +kernel
theorem dX8_guest_83 : decode cX8_guest 83 = .ok (.aload_n 0, 1) := by decide +kernel
theorem dX8_guest_84 : decode cX8_guest 84 = .ok (.getfield 82, 3) := by decide +kernel
theorem dX8_guest_87 : decode cX8_guest 87 = .ok (.imul, 1) := by decide +kernel
theorem dX8_guest_88 : decode cX8_guest 88 = .ok (.iload_n 3, 1) := by decide +kernel
theorem dX8_guest_89 : decode cX8_guest 89 = .ok (.iadd, 1) := by decide +kernel
theorem dX8_guest_90 : decode cX8_guest 90 = .ok (.iconst 0, 1) := by decide +kernel
theorem dX8_guest_91 : decode cX8_guest 91 = .ok (.iastore, 1) := by decide +kernel
theorem dX8_guest_92 : decode cX8_guest 92 = .ok (.aload_n 0, 1) := by decide +kernel
theorem dX8_guest_93 : decode cX8_guest 93 = .ok (.getfield 35, 3) := by decide +kernel
theorem dX8_guest_96 : decode cX8_guest 96 = .ok (.bipush 7, 2) := by decide +kernel
theorem dX8_guest_98 : decode cX8_guest 98 = .ok (.iload_n 3, 1) := by decide +kernel
theorem dX8_guest_99 : decode cX8_guest 99 = .ok (.imul, 1) := by decide +kernel
theorem dX8_guest_100 : decode cX8_guest 100 = .ok (.aload_n 0, 1) := by decide +kernel
theorem dX8_guest_101 : decode cX8_guest 101 = .ok (.getfield 82, 3) := by decide +kernel
theorem dX8_guest_104 : decode cX8_guest 104 = .ok (.iadd, 1) := by decide +kernel
theorem dX8_guest_105 : decode cX8_guest 105 = .ok (.iconst 0, 1) := by decide +kernel
theorem dX8_guest_106 : decode cX8_guest 106 = .ok (.iastore, 1) := by decide +kernel
theorem dX8_guest_107 : decode cX8_guest 107 = .ok (.iinc 3 1, 3) := by decide +kernel
theorem dX8_guest_110 : decode cX8_guest 110 = .ok (.goto (-39), 3) := by decide +kernel
theorem dX8_guest_113 : decode cX8_guest 113 = .ok (.aload_n 0, 1) := by decide +kernel
theorem dX8_guest_114 : decode cX8_guest 114 = .ok (.dup, 1) := by decide +kernel
theorem dX8_guest_115 : decode cX8_guest 115 = .ok (.getfield 82, 3) := by decide +kernel
theorem dX8_guest_118 : decode cX8_guest 118 = .ok (.iconst 1, 1) := by decide +kernel
theorem dX8_guest_119 : decode cX8_guest 119 = .ok (.iadd, 1) := by decide +kernel
theorem dX8_guest_120 : decode cX8_guest 120 = .ok (.putfield 82, 3) := by decide +kernel
theorem dX8_guest_123 : decode cX8_guest 123 = .ok (.aload_n 0, 1) := by decide +kernel
theorem dX8_guest_124 : decode cX8_guest 124 = .ok (.getfield 82, 3) := by decide +kernel
theorem dX8_guest_127 : decode cX8_guest 127 = .ok (.iconst 1, 1) := by decide +kernel
theorem dX8_guest_128 : decode cX8_guest 128 = .ok (.isub, 1) := by decide +kernel
theorem dX8_guest_129 : decode cX8_guest 129 = .ok (.ireturn, 1) := by decide +kernel
theorem dX8_areTwo_0 : decode cX8_areTwo 0 = .ok (.aload_n 0, 1) := by decide +kernel
theorem dX8_areTwo_1 : decode cX8_areTwo 1 = .ok (.iload_n 1, 1) := by decide +kernel
theorem dX8_areTwo_2 : decode cX8_areTwo 2 = .ok (.invokevirtual 89, 3) := by decide +kernel
theorem dX8_areTwo_5 : decode cX8_areTwo 5 = .ok (.ifCond .eq 20, 3) := by decide +kernel
theorem dX8_areTwo_8 : decode cX8_areTwo 8 = .ok (.aload_n 0, 1) := by decide +kernel
theorem dX8_areTwo_9 : decode cX8_areTwo 9 = .ok (.iload_n 2, 1) := by decide +kernel
theorem dX8_areTwo_10 : decode cX8_areTwo 10 = .ok (.invokevirtual 89, 3) := by decide +kernel
theorem dX8_areTwo_13 : decode cX8_areTwo 13 = .ok (.ifCond .eq 12, 3) := by decide +kernel
theorem dX8_areTwo_16 : decode cX8_areTwo 16 = .ok (.iload_n 1, 1) := by decide +kernel
theorem dX8_areTwo_17 : decode cX8_areTwo 17 = .ok (.iload_n 2, 1) := by decide +kernel
theorem dX8_areTwo_18 : decode cX8_areTwo 18 = .ok (.if_icmp .eq 7, 3) := by decide +kernel
theorem dX8_areTwo_21 : decode cX8_areTwo 21 = .ok (.iconst 1, 1) := by decide +kernel
theorem dX8_areTwo_22 : decode cX8_areTwo 22 = .ok (.goto 4, 3) := by decide +kernel
theorem dX8_areTwo_25 : decode cX8_areTwo 25 = .ok (.iconst 0, 1) := by decide +kernel
theorem dX8_areTwo_26 : decode cX8_areTwo 26 = .ok (.ireturn, 1) := by decide +kernel
theorem dX8_owe_0 : decode cX8_owe 0 = .ok (.aload_n 0, 1) := by decide +kernel
theorem dX8_owe_1 : decode cX8_owe 1 = .ok (.iload_n 1, 1) := by decide +kernel
theorem dX8_owe_2 : decode cX8_owe 2 = .ok (.iload_n 2, 1) := by decide +kernel
theorem dX8_owe_3 : decode cX8_owe 3 = .ok (.invokevirtual 116, 3) := by decide +kernel
theorem dX8_owe_6 : decode cX8_owe 6 = .ok (.ifCond .eq 15, 3) := by decide +kernel
theorem dX8_owe_9 : decode cX8_owe 9 = .ok (.iload_n 3, 1) := by decide +kernel
theorem dX8_owe_10 : decode cX8_owe 10 = .ok (.i2l, 1) := by decide +kernel
theorem dX8_owe_11 : decode cX8_owe 11 = .ok (.lconst 0, 1) := by decide +kernel
theorem dX8_owe_12 : decode cX8_owe 12 = .ok (.ldc2_w 93, 3) := by decide +kernel
theorem dX8_owe_15 : decode cX8_owe 15 = .ok (.invokestatic 85, 3) := by decide +kernel
theorem dX8_owe_18 : decode cX8_owe 18 = .ok (.ifCond .ne 6, 3) := by decide +kernel
theorem dX8_owe_21 : decode cX8_owe 21 = .ok (.bipush (-2), 2) := by decide +kernel
theorem dX8_owe_23 : decode cX8_owe 23 = .ok (.ireturn, 1) := by decide +kernel
theorem dX8_owe_24 : decode cX8_owe 24 = .ok (.aload_n 0, 1) := by decide +kernel
theorem dX8_owe_25 : decode cX8_owe 25 = .ok (.getfield 35, 3) := by decide +kernel
theorem dX8_owe_28 : decode cX8_owe 28 = .ok (.bipush 7, 2) := by decide +kernel
theorem dX8_owe_30 : decode cX8_owe 30 = .ok (.iload_n 1, 1) := by decide +kernel
theorem dX8_owe_31 : decode cX8_owe 31 = .ok (.imul, 1) := by decide +kernel
theorem dX8_owe_32 : decode cX8_owe 32 = .ok (.iload_n 2, 1) := by decide +kernel
theorem dX8_owe_33 : decode cX8_owe 33 = .ok (.iadd, 1) := by decide +kernel
theorem dX8_owe_34 : decode cX8_owe 34 = .ok (.iaload, 1) := by decide +kernel
theorem dX8_owe_35 : decode cX8_owe 35 = .ok (.istore 4, 2) := by decide +kernel
theorem dX8_owe_37 : decode cX8_owe 37 = .ok (.aload_n 0, 1) := by decide +kernel
theorem dX8_owe_38 : decode cX8_owe 38 = .ok (.getfield 35, 3) := by decide +kernel
theorem dX8_owe_41 : decode cX8_owe 41 = .ok (.bipush 7, 2) := by decide +kernel
theorem dX8_owe_43 : decode cX8_owe 43 = .ok (.iload_n 1, 1) := by decide +kernel
theorem dX8_owe_44 : decode cX8_owe 44 = .ok (.imul, 1) := by decide +kernel
theorem dX8_owe_45 : decode cX8_owe 45 = .ok (.iload_n 2, 1) := by decide +kernel
theorem dX8_owe_46 : decode cX8_owe 46 = .ok (.iadd, 1) := by decide +kernel
theorem dX8_owe_47 : decode cX8_owe 47 = .ok (.iload_n 3, 1) := by decide +kernel
theorem dX8_owe_48 : decode cX8_owe 48 = .ok (.iastore, 1) := by decide +kernel
theorem dX8_owe_49 : decode cX8_owe 49 = .ok (.iload 4, 2) := by decide +kernel
theorem dX8_owe_51 : decode cX8_owe 51 = .ok (.ireturn, 1) := by decide +kernel
theorem dX8_told_0 : decode cX8_told 0 = .ok (.iload_n 2, 1) := by decide +kernel
theorem dX8_told_1 : decode cX8_told 1 = .ok (.i2l, 1) := by decide +kernel
theorem dX8_told_2 : decode cX8_told 2 = .ok (.ldc2_w 120, 3) := by decide +kernel
theorem dX8_told_5 : decode cX8_told 5 = .ok (.ldc2_w 122, 3) := by decide +kernel
theorem dX8_told_8 : decode cX8_told 8 = .ok (.invokestatic 85, 3) := by decide +kernel
theorem dX8_told_11 : decode cX8_told 11 = .ok (.ifCond .eq 18, 3) := by decide +kernel
theorem dX8_told_14 : decode cX8_told 14 = .ok (.aload_n 0, 1) := by decide +kernel
theorem dX8_told_15 : decode cX8_told 15 = .ok (.iload_n 2, 1) := by decide +kernel
theorem dX8_told_16 : decode cX8_told 16 = .ok (.bipush 10, 2) := by decide +kernel
theorem dX8_told_18 : decode cX8_told 18 = .ok (.isub, 1) := by decide +kernel
