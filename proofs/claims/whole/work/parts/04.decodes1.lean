theorem dX0_init_0 : decode cX0_init 0 = .ok (.aload_n 0, 1) := by decide +kernel
theorem dX0_init_1 : decode cX0_init 1 = .ok (.invokespecial 3, 3) := by decide +kernel
theorem dX0_init_4 : decode cX0_init 4 = .ok (.aload_n 0, 1) := by decide +kernel
theorem dX0_init_5 : decode cX0_init 5 = .ok (.aload_n 1, 1) := by decide +kernel
theorem dX0_init_6 : decode cX0_init 6 = .ok (.putfield 9, 3) := by decide +kernel
theorem dX0_init_9 : decode cX0_init 9 = .ok (.aload_n 0, 1) := by decide +kernel
theorem dX0_init_10 : decode cX0_init 10 = .ok (.aload_n 2, 1) := by decide +kernel
theorem dX0_init_11 : decode cX0_init 11 = .ok (.putfield 15, 3) := by decide +kernel
theorem dX0_init_14 : decode cX0_init 14 = .ok (.return_, 1) := by decide +kernel
theorem dX0_readText_0 : decode cX0_readText 0 = .ok (.aload_n 0, 1) := by decide +kernel
theorem dX0_readText_1 : decode cX0_readText 1 = .ok (.getfield 9, 3) := by decide +kernel
theorem dX0_readText_4 : decode cX0_readText 4 = .ok (.iload_n 1, 1) := by decide +kernel
theorem dX0_readText_5 : decode cX0_readText 5 = .ok (.invokevirtual 19, 3) := by decide +kernel
theorem dX0_readText_8 : decode cX0_readText 8 = .ok (.aload_n 0, 1) := by decide +kernel
theorem dX0_readText_9 : decode cX0_readText 9 = .ok (.getfield 15, 3) := by decide +kernel
theorem dX0_readText_12 : decode cX0_readText 12 = .ok (.invokevirtual 25, 3) := by decide +kernel
theorem dX0_readText_15 : decode cX0_readText 15 = .ok (.aload_n 0, 1) := by decide +kernel
theorem dX0_readText_16 : decode cX0_readText 16 = .ok (.getfield 9, 3) := by decide +kernel
theorem dX0_readText_19 : decode cX0_readText 19 = .ok (.invokevirtual 30, 3) := by decide +kernel
theorem dX0_readText_22 : decode cX0_readText 22 = .ok (.aload_n 0, 1) := by decide +kernel
theorem dX0_readText_23 : decode cX0_readText 23 = .ok (.getfield 9, 3) := by decide +kernel
theorem dX0_readText_26 : decode cX0_readText 26 = .ok (.ldc 33, 2) := by decide +kernel
theorem dX0_readText_28 : decode cX0_readText 28 = .ok (.invokevirtual 35, 3) := by decide +kernel
theorem dX0_readText_31 : decode cX0_readText 31 = .ok (.ifCond .ne 11, 3) := by decide +kernel
theorem dX0_readText_34 : decode cX0_readText 34 = .ok (.aload_n 0, 1) := by decide +kernel
theorem dX0_readText_35 : decode cX0_readText 35 = .ok (.getfield 9, 3) := by decide +kernel
theorem dX0_readText_38 : decode cX0_readText 38 = .ok (.iconst 1, 1) := by decide +kernel
theorem dX0_readText_39 : decode cX0_readText 39 = .ok (.invokevirtual 39, 3) := by decide +kernel
theorem dX0_readText_42 : decode cX0_readText 42 = .ok (.aload_n 0, 1) := by decide +kernel
theorem dX0_readText_43 : decode cX0_readText 43 = .ok (.iconst 3, 1) := by decide +kernel
theorem dX0_readText_44 : decode cX0_readText 44 = .ok (.bipush 12, 2) := by decide +kernel
theorem dX0_readText_46 : decode cX0_readText 46 = .ok (.invokevirtual 42, 3) := by decide +kernel
theorem dX0_readText_49 : decode cX0_readText 49 = .ok (.istore_n 2, 1) := by decide +kernel
theorem dX0_readText_50 : decode cX0_readText 50 = .ok (.aload_n 0, 1) := by decide +kernel
theorem dX0_readText_51 : decode cX0_readText 51 = .ok (.iconst 3, 1) := by decide +kernel
theorem dX0_readText_52 : decode cX0_readText 52 = .ok (.bipush 12, 2) := by decide +kernel
theorem dX0_readText_54 : decode cX0_readText 54 = .ok (.invokevirtual 42, 3) := by decide +kernel
theorem dX0_readText_57 : decode cX0_readText 57 = .ok (.istore_n 3, 1) := by decide +kernel
theorem dX0_readText_58 : decode cX0_readText 58 = .ok (.aload_n 0, 1) := by decide +kernel
theorem dX0_readText_59 : decode cX0_readText 59 = .ok (.invokevirtual 46, 3) := by decide +kernel
theorem dX0_readText_62 : decode cX0_readText 62 = .ok (.aload_n 0, 1) := by decide +kernel
theorem dX0_readText_63 : decode cX0_readText 63 = .ok (.getfield 15, 3) := by decide +kernel
theorem dX0_readText_66 : decode cX0_readText 66 = .ok (.iload_n 2, 1) := by decide +kernel
theorem dX0_readText_67 : decode cX0_readText 67 = .ok (.putfield 49, 3) := by decide +kernel
theorem dX0_readText_70 : decode cX0_readText 70 = .ok (.aload_n 0, 1) := by decide +kernel
theorem dX0_readText_71 : decode cX0_readText 71 = .ok (.getfield 15, 3) := by decide +kernel
theorem dX0_readText_74 : decode cX0_readText 74 = .ok (.iload_n 3, 1) := by decide +kernel
theorem dX0_readText_75 : decode cX0_readText 75 = .ok (.putfield 53, 3) := by decide +kernel
theorem dX0_readText_78 : decode cX0_readText 78 = .ok (.iconst 0, 1) := by decide +kernel
theorem dX0_readText_79 : decode cX0_readText 79 = .ok (.istore 4, 2) := by decide +kernel
theorem dX0_readText_81 : decode cX0_readText 81 = .ok (.iload 4, 2) := by decide +kernel
theorem dX0_readText_83 : decode cX0_readText 83 = .ok (.sipush 600, 3) := by decide +kernel
theorem dX0_readText_86 : decode cX0_readText 86 = .ok (.if_icmp .ge 47, 3) := by decide +kernel
theorem dX0_readText_89 : decode cX0_readText 89 = .ok (.aload_n 0, 1) := by decide +kernel
theorem dX0_readText_90 : decode cX0_readText 90 = .ok (.getfield 9, 3) := by decide +kernel
theorem dX0_readText_93 : decode cX0_readText 93 = .ok (.invokevirtual 56, 3) := by decide +kernel
theorem dX0_readText_96 : decode cX0_readText 96 = .ok (.ifCond .eq 37, 3) := by decide +kernel
theorem dX0_readText_99 : decode cX0_readText 99 = .ok (.aload_n 0, 1) := by decide +kernel
theorem dX0_readText_100 : decode cX0_readText 100 = .ok (.getfield 9, 3) := by decide +kernel
theorem dX0_readText_103 : decode cX0_readText 103 = .ok (.invokevirtual 30, 3) := by decide +kernel
theorem dX0_readText_106 : decode cX0_readText 106 = .ok (.aload_n 0, 1) := by decide +kernel
theorem dX0_readText_107 : decode cX0_readText 107 = .ok (.getfield 9, 3) := by decide +kernel
theorem dX0_readText_110 : decode cX0_readText 110 = .ok (.invokevirtual 60, 3) := by decide +kernel
theorem dX0_readText_113 : decode cX0_readText 113 = .ok (.ifCond .eq 6, 3) := by decide +kernel
theorem dX0_readText_116 : decode cX0_readText 116 = .ok (.goto 17, 3) := by decide +kernel
theorem dX0_readText_119 : decode cX0_readText 119 = .ok (.aload_n 0, 1) := by decide +kernel
theorem dX0_readText_120 : decode cX0_readText 120 = .ok (.invokevirtual 63, 3) := by decide +kernel
theorem dX0_readText_123 : decode cX0_readText 123 = .ok (.aload_n 0, 1) := by decide +kernel
theorem dX0_readText_124 : decode cX0_readText 124 = .ok (.invokevirtual 46, 3) := by decide +kernel
theorem dX0_readText_127 : decode cX0_readText 127 = .ok (.iinc 4 1, 3) := by decide +kernel
theorem dX0_readText_130 : decode cX0_readText 130 = .ok (.goto (-49), 3) := by decide +kernel
theorem dX0_readText_133 : decode cX0_readText 133 = .ok (.aload_n 0, 1) := by decide +kernel
theorem dX0_readText_134 : decode cX0_readText 134 = .ok (.getfield 9, 3) := by decide +kernel
theorem dX0_readText_137 : decode cX0_readText 137 = .ok (.invokevirtual 66, 3) := by decide +kernel
theorem dX0_readText_140 : decode cX0_readText 140 = .ok (.ireturn, 1) := by decide +kernel
theorem dX0_readClause_0 : decode cX0_readClause 0 = .ok (.aload_n 0, 1) := by decide +kernel
theorem dX0_readClause_1 : decode cX0_readClause 1 = .ok (.getfield 9, 3) := by decide +kernel
theorem dX0_readClause_4 : decode cX0_readClause 4 = .ok (.ldc 70, 2) := by decide +kernel
theorem dX0_readClause_6 : decode cX0_readClause 6 = .ok (.invokevirtual 35, 3) := by decide +kernel
theorem dX0_readClause_9 : decode cX0_readClause 9 = .ok (.ifCond .eq 10, 3) := by decide +kernel
theorem dX0_readClause_12 : decode cX0_readClause 12 = .ok (.aload_n 0, 1) := by decide +kernel
theorem dX0_readClause_13 : decode cX0_readClause 13 = .ok (.invokevirtual 72, 3) := by decide +kernel
theorem dX0_readClause_16 : decode cX0_readClause 16 = .ok (.goto 116, 3) := by decide +kernel
theorem dX0_readClause_19 : decode cX0_readClause 19 = .ok (.aload_n 0, 1) := by decide +kernel
theorem dX0_readClause_20 : decode cX0_readClause 20 = .ok (.getfield 9, 3) := by decide +kernel
theorem dX0_readClause_23 : decode cX0_readClause 23 = .ok (.ldc 75, 2) := by decide +kernel
theorem dX0_readClause_25 : decode cX0_readClause 25 = .ok (.invokevirtual 35, 3) := by decide +kernel
theorem dX0_readClause_28 : decode cX0_readClause 28 = .ok (.ifCond .eq 10, 3) := by decide +kernel
theorem dX0_readClause_31 : decode cX0_readClause 31 = .ok (.aload_n 0, 1) := by decide +kernel
theorem dX0_readClause_32 : decode cX0_readClause 32 = .ok (.invokevirtual 77, 3) := by decide +kernel
theorem dX0_readClause_35 : decode cX0_readClause 35 = .ok (.goto 97, 3) := by decide +kernel
theorem dX0_readClause_38 : decode cX0_readClause 38 = .ok (.aload_n 0, 1) := by decide +kernel
theorem dX0_readClause_39 : decode cX0_readClause 39 = .ok (.getfield 9, 3) := by decide +kernel
theorem dX0_readClause_42 : decode cX0_readClause 42 = .ok (.ldc 80, 2) := by decide +kernel
theorem dX0_readClause_44 : decode cX0_readClause 44 = .ok (.invokevirtual 35, 3) := by decide +kernel
theorem dX0_readClause_47 : decode cX0_readClause 47 = .ok (.ifCond .eq 10, 3) := by decide +kernel
theorem dX0_readClause_50 : decode cX0_readClause 50 = .ok (.aload_n 0, 1) := by decide +kernel
theorem dX0_readClause_51 : decode cX0_readClause 51 = .ok (.invokevirtual 82, 3) := by decide +kernel
theorem dX0_readClause_54 : decode cX0_readClause 54 = .ok (.goto 78, 3) := by decide +kernel
theorem dX0_readClause_57 : decode cX0_readClause 57 = .ok (.aload_n 0, 1) := by decide +kernel
theorem dX0_readClause_58 : decode cX0_readClause 58 = .ok (.getfield 9, 3) := by decide +kernel
theorem dX0_readClause_61 : decode cX0_readClause 61 = .ok (.ldc 85, 2) := by decide +kernel
theorem dX0_readClause_63 : decode cX0_readClause 63 = .ok (.invokevirtual 35, 3) := by decide +kernel
theorem dX0_readClause_66 : decode cX0_readClause 66 = .ok (.ifCond .eq 10, 3) := by decide +kernel
theorem dX0_readClause_69 : decode cX0_readClause 69 = .ok (.aload_n 0, 1) := by decide +kernel
theorem dX0_readClause_70 : decode cX0_readClause 70 = .ok (.invokevirtual 87, 3) := by decide +kernel
theorem dX0_readClause_73 : decode cX0_readClause 73 = .ok (.goto 59, 3) := by decide +kernel
theorem dX0_readClause_76 : decode cX0_readClause 76 = .ok (.aload_n 0, 1) := by decide +kernel
theorem dX0_readClause_77 : decode cX0_readClause 77 = .ok (.getfield 9, 3) := by decide +kernel
theorem dX0_readClause_80 : decode cX0_readClause 80 = .ok (.ldc 90, 2) := by decide +kernel
theorem dX0_readClause_82 : decode cX0_readClause 82 = .ok (.invokevirtual 35, 3) := by decide +kernel
theorem dX0_readClause_85 : decode cX0_readClause 85 = .ok (.ifCond .eq 20, 3) := by decide +kernel
theorem dX0_readClause_88 : decode cX0_readClause 88 = .ok (.aload_n 0, 1) := by decide +kernel
theorem dX0_readClause_89 : decode cX0_readClause 89 = .ok (.getfield 15, 3) := by decide +kernel
theorem dX0_readClause_92 : decode cX0_readClause 92 = .ok (.aload_n 0, 1) := by decide +kernel
theorem dX0_readClause_93 : decode cX0_readClause 93 = .ok (.iconst 1, 1) := by decide +kernel
theorem dX0_readClause_94 : decode cX0_readClause 94 = .ok (.bipush 30, 2) := by decide +kernel
theorem dX0_readClause_96 : decode cX0_readClause 96 = .ok (.invokevirtual 42, 3) := by decide +kernel
theorem dX0_readClause_99 : decode cX0_readClause 99 = .ok (.putfield 92, 3) := by decide +kernel
theorem dX0_readClause_102 : decode cX0_readClause 102 = .ok (.goto 30, 3) := by decide +kernel
theorem dX0_readClause_105 : decode cX0_readClause 105 = .ok (.aload_n 0, 1) := by decide +kernel
theorem dX0_readClause_106 : decode cX0_readClause 106 = .ok (.getfield 9, 3) := by decide +kernel
theorem dX0_readClause_109 : decode cX0_readClause 109 = .ok (.ldc 94, 2) := by decide +kernel
theorem dX0_readClause_111 : decode cX0_readClause 111 = .ok (.invokevirtual 35, 3) := by decide +kernel
theorem dX0_readClause_114 : decode cX0_readClause 114 = .ok (.ifCond .eq 10, 3) := by decide +kernel
theorem dX0_readClause_117 : decode cX0_readClause 117 = .ok (.aload_n 0, 1) := by decide +kernel
theorem dX0_readClause_118 : decode cX0_readClause 118 = .ok (.invokevirtual 96, 3) := by decide +kernel
theorem dX0_readClause_121 : decode cX0_readClause 121 = .ok (.goto 11, 3) := by decide +kernel
theorem dX0_readClause_124 : decode cX0_readClause 124 = .ok (.aload_n 0, 1) := by decide +kernel
theorem dX0_readClause_125 : decode cX0_readClause 125 = .ok (.getfield 9, 3) := by decide +kernel
theorem dX0_readClause_128 : decode cX0_readClause 128 = .ok (.iconst 1, 1) := by decide +kernel
theorem dX0_readClause_129 : decode cX0_readClause 129 = .ok (.invokevirtual 39, 3) := by decide +kernel
theorem dX0_readClause_132 : decode cX0_readClause 132 = .ok (.return_, 1) := by decide +kernel
theorem dX0_readWall_0 : decode cX0_readWall 0 = .ok (.aload_n 0, 1) := by decide +kernel
theorem dX0_readWall_1 : decode cX0_readWall 1 = .ok (.invokevirtual 99, 3) := by decide +kernel
theorem dX0_readWall_4 : decode cX0_readWall 4 = .ok (.istore_n 1, 1) := by decide +kernel
theorem dX0_readWall_5 : decode cX0_readWall 5 = .ok (.aload_n 0, 1) := by decide +kernel
theorem dX0_readWall_6 : decode cX0_readWall 6 = .ok (.invokevirtual 102, 3) := by decide +kernel
theorem dX0_readWall_9 : decode cX0_readWall 9 = .ok (.istore_n 2, 1) := by decide +kernel
theorem dX0_readWall_10 : decode cX0_readWall 10 = .ok (.aload_n 0, 1) := by decide +kernel
theorem dX0_readWall_11 : decode cX0_readWall 11 = .ok (.getfield 15, 3) := by decide +kernel
theorem dX0_readWall_14 : decode cX0_readWall 14 = .ok (.iload_n 1, 1) := by decide +kernel
theorem dX0_readWall_15 : decode cX0_readWall 15 = .ok (.iload_n 2, 1) := by decide +kernel
theorem dX0_readWall_16 : decode cX0_readWall 16 = .ok (.invokevirtual 105, 3) := by decide +kernel
theorem dX0_readWall_19 : decode cX0_readWall 19 = .ok (.ifCond .ne 28, 3) := by decide +kernel
theorem dX0_readWall_22 : decode cX0_readWall 22 = .ok (.aload_n 0, 1) := by decide +kernel
theorem dX0_readWall_23 : decode cX0_readWall 23 = .ok (.getfield 15, 3) := by decide +kernel
theorem dX0_readWall_26 : decode cX0_readWall 26 = .ok (.iload_n 1, 1) := by decide +kernel
theorem dX0_readWall_27 : decode cX0_readWall 27 = .ok (.iload_n 2, 1) := by decide +kernel
theorem dX0_readWall_28 : decode cX0_readWall 28 = .ok (.invokevirtual 109, 3) := by decide +kernel
theorem dX0_readWall_31 : decode cX0_readWall 31 = .ok (.ifCond .ne 16, 3) := by decide +kernel
theorem dX0_readWall_34 : decode cX0_readWall 34 = .ok (.aload_n 0, 1) := by decide +kernel
theorem dX0_readWall_35 : decode cX0_readWall 35 = .ok (.getfield 15, 3) := by decide +kernel
theorem dX0_readWall_38 : decode cX0_readWall 38 = .ok (.iload_n 1, 1) := by decide +kernel
theorem dX0_readWall_39 : decode cX0_readWall 39 = .ok (.iload_n 2, 1) := by decide +kernel
theorem dX0_readWall_40 : decode cX0_readWall 40 = .ok (.invokevirtual 112, 3) := by decide +kernel
theorem dX0_readWall_43 : decode cX0_readWall 43 = .ok (.iconst (-1), 1) := by decide +kernel
theorem dX0_readWall_44 : decode cX0_readWall 44 = .ok (.if_icmp .eq 11, 3) := by decide +kernel
theorem dX0_readWall_47 : decode cX0_readWall 47 = .ok (.aload_n 0, 1) := by decide +kernel
theorem dX0_readWall_48 : decode cX0_readWall 48 = .ok (.getfield 9, 3) := by decide +kernel
theorem dX0_readWall_51 : decode cX0_readWall 51 = .ok (.iconst 4, 1) := by decide +kernel
theorem dX0_readWall_52 : decode cX0_readWall 52 = .ok (.invokevirtual 39, 3) := by decide +kernel
theorem dX0_readWall_55 : decode cX0_readWall 55 = .ok (.aload_n 0, 1) := by decide +kernel
theorem dX0_readWall_56 : decode cX0_readWall 56 = .ok (.getfield 9, 3) := by decide +kernel
theorem dX0_readWall_59 : decode cX0_readWall 59 = .ok (.invokevirtual 56, 3) := by decide +kernel
theorem dX0_readWall_62 : decode cX0_readWall 62 = .ok (.ifCond .eq 12, 3) := by decide +kernel
theorem dX0_readWall_65 : decode cX0_readWall 65 = .ok (.aload_n 0, 1) := by decide +kernel
theorem dX0_readWall_66 : decode cX0_readWall 66 = .ok (.getfield 15, 3) := by decide +kernel
theorem dX0_readWall_69 : decode cX0_readWall 69 = .ok (.iload_n 1, 1) := by decide +kernel
theorem dX0_readWall_70 : decode cX0_readWall 70 = .ok (.iload_n 2, 1) := by decide +kernel
theorem dX0_readWall_71 : decode cX0_readWall 71 = .ok (.invokevirtual 115, 3) := by decide +kernel
theorem dX0_readWall_74 : decode cX0_readWall 74 = .ok (.return_, 1) := by decide +kernel
theorem dX0_readHeadquarters_0 : decode cX0_readHeadquarters 0 = .ok (.aload_n 0, 1) := by decide +kernel
theorem dX0_readHeadquarters_1 : decode cX0_readHeadquarters 1 = .ok (.invokevirtual 99, 3) := by decide +kernel
theorem dX0_readHeadquarters_4 : decode cX0_readHeadquarters 4 = .ok (.istore_n 1, 1) := by decide +kernel
theorem dX0_readHeadquarters_5 : decode cX0_readHeadquarters 5 = .ok (.aload_n 0, 1) := by decide +kernel
theorem dX0_readHeadquarters_6 : decode cX0_readHeadquarters 6 = .ok (.iload_n 1, 1) := by decide +kernel
theorem dX0_readHeadquarters_7 : decode cX0_readHeadquarters 7 = .ok (.invokevirtual 119, 3) := by decide +kernel
theorem dX0_readHeadquarters_10 : decode cX0_readHeadquarters 10 = .ok (.istore_n 2, 1) := by decide +kernel
theorem dX0_readHeadquarters_11 : decode cX0_readHeadquarters 11 = .ok (.aload_n 0, 1) := by decide +kernel
theorem dX0_readHeadquarters_12 : decode cX0_readHeadquarters 12 = .ok (.getfield 15, 3) := by decide +kernel
theorem dX0_readHeadquarters_15 : decode cX0_readHeadquarters 15 = .ok (.iload_n 1, 1) := by decide +kernel
theorem dX0_readHeadquarters_16 : decode cX0_readHeadquarters 16 = .ok (.putfield 123, 3) := by decide +kernel
theorem dX0_readHeadquarters_19 : decode cX0_readHeadquarters 19 = .ok (.aload_n 0, 1) := by decide +kernel
theorem dX0_readHeadquarters_20 : decode cX0_readHeadquarters 20 = .ok (.getfield 15, 3) := by decide +kernel
theorem dX0_readHeadquarters_23 : decode cX0_readHeadquarters 23 = .ok (.iload_n 2, 1) := by decide +kernel
theorem dX0_readHeadquarters_24 : decode cX0_readHeadquarters 24 = .ok (.putfield 126, 3) := by decide +kernel
theorem dX0_readHeadquarters_27 : decode cX0_readHeadquarters 27 = .ok (.return_, 1) := by decide +kernel
theorem dX0_readUnit_0 : decode cX0_readUnit 0 = .ok (.aload_n 0, 1) := by decide +kernel
theorem dX0_readUnit_1 : decode cX0_readUnit 1 = .ok (.getfield 15, 3) := by decide +kernel
theorem dX0_readUnit_4 : decode cX0_readUnit 4 = .ok (.getfield 129, 3) := by decide +kernel
theorem dX0_readUnit_7 : decode cX0_readUnit 7 = .ok (.invokevirtual 133, 3) := by decide +kernel
theorem dX0_readUnit_10 : decode cX0_readUnit 10 = .ok (.bipush 6, 2) := by decide +kernel
theorem dX0_readUnit_12 : decode cX0_readUnit 12 = .ok (.if_icmp .lt 11, 3) := by decide +kernel
theorem dX0_readUnit_15 : decode cX0_readUnit 15 = .ok (.aload_n 0, 1) := by decide +kernel
theorem dX0_readUnit_16 : decode cX0_readUnit 16 = .ok (.getfield 9, 3) := by decide +kernel
theorem dX0_readUnit_19 : decode cX0_readUnit 19 = .ok (.iconst 3, 1) := by decide +kernel
theorem dX0_readUnit_20 : decode cX0_readUnit 20 = .ok (.invokevirtual 39, 3) := by decide +kernel
theorem dX0_readUnit_23 : decode cX0_readUnit 23 = .ok (.aload_n 0, 1) := by decide +kernel
theorem dX0_readUnit_24 : decode cX0_readUnit 24 = .ok (.invokevirtual 99, 3) := by decide +kernel
theorem dX0_readUnit_27 : decode cX0_readUnit 27 = .ok (.istore_n 1, 1) := by decide +kernel
theorem dX0_readUnit_28 : decode cX0_readUnit 28 = .ok (.aload_n 0, 1) := by decide +kernel
theorem dX0_readUnit_29 : decode cX0_readUnit 29 = .ok (.iload_n 1, 1) := by decide +kernel
theorem dX0_readUnit_30 : decode cX0_readUnit 30 = .ok (.invokevirtual 119, 3) := by decide +kernel
theorem dX0_readUnit_33 : decode cX0_readUnit 33 = .ok (.istore_n 2, 1) := by decide +kernel
theorem dX0_readUnit_34 : decode cX0_readUnit 34 = .ok (.aload_n 0, 1) := by decide +kernel
theorem dX0_readUnit_35 : decode cX0_readUnit 35 = .ok (.iconst 1, 1) := by decide +kernel
theorem dX0_readUnit_36 : decode cX0_readUnit 36 = .ok (.iconst 3, 1) := by decide +kernel
theorem dX0_readUnit_37 : decode cX0_readUnit 37 = .ok (.invokevirtual 42, 3) := by decide +kernel
theorem dX0_readUnit_40 : decode cX0_readUnit 40 = .ok (.istore_n 3, 1) := by decide +kernel
theorem dX0_readUnit_41 : decode cX0_readUnit 41 = .ok (.aload_n 0, 1) := by decide +kernel
theorem dX0_readUnit_42 : decode cX0_readUnit 42 = .ok (.getfield 15, 3) := by decide +kernel
theorem dX0_readUnit_45 : decode cX0_readUnit 45 = .ok (.iload_n 1, 1) := by decide +kernel
theorem dX0_readUnit_46 : decode cX0_readUnit 46 = .ok (.iload_n 2, 1) := by decide +kernel
theorem dX0_readUnit_47 : decode cX0_readUnit 47 = .ok (.iload_n 3, 1) := by decide +kernel
theorem dX0_readUnit_48 : decode cX0_readUnit 48 = .ok (.invokevirtual 138, 3) := by decide +kernel
theorem dX0_readUnit_51 : decode cX0_readUnit 51 = .ok (.pop, 1) := by decide +kernel
theorem dX0_readUnit_52 : decode cX0_readUnit 52 = .ok (.return_, 1) := by decide +kernel
theorem dX0_readPicket_0 : decode cX0_readPicket 0 = .ok (.aload_n 0, 1) := by decide +kernel
theorem dX0_readPicket_1 : decode cX0_readPicket 1 = .ok (.getfield 15, 3) := by decide +kernel
theorem dX0_readPicket_4 : decode cX0_readPicket 4 = .ok (.getfield 142, 3) := by decide +kernel
theorem dX0_readPicket_7 : decode cX0_readPicket 7 = .ok (.invokevirtual 133, 3) := by decide +kernel
theorem dX0_readPicket_10 : decode cX0_readPicket 10 = .ok (.iconst 4, 1) := by decide +kernel
theorem dX0_readPicket_11 : decode cX0_readPicket 11 = .ok (.if_icmp .lt 11, 3) := by decide +kernel
theorem dX0_readPicket_14 : decode cX0_readPicket 14 = .ok (.aload_n 0, 1) := by decide +kernel
theorem dX0_readPicket_15 : decode cX0_readPicket 15 = .ok (.getfield 9, 3) := by decide +kernel
theorem dX0_readPicket_18 : decode cX0_readPicket 18 = .ok (.iconst 3, 1) := by decide +kernel
theorem dX0_readPicket_19 : decode cX0_readPicket 19 = .ok (.invokevirtual 39, 3) := by decide +kernel
theorem dX0_readPicket_22 : decode cX0_readPicket 22 = .ok (.aload_n 0, 1) := by decide +kernel
theorem dX0_readPicket_23 : decode cX0_readPicket 23 = .ok (.getfield 15, 3) := by decide +kernel
theorem dX0_readPicket_26 : decode cX0_readPicket 26 = .ok (.getfield 142, 3) := by decide +kernel
theorem dX0_readPicket_29 : decode cX0_readPicket 29 = .ok (.invokevirtual 145, 3) := by decide +kernel
theorem dX0_readPicket_32 : decode cX0_readPicket 32 = .ok (.istore_n 1, 1) := by decide +kernel
theorem dX0_readPicket_33 : decode cX0_readPicket 33 = .ok (.aload_n 0, 1) := by decide +kernel
theorem dX0_readPicket_34 : decode cX0_readPicket 34 = .ok (.getfield 15, 3) := by decide +kernel
theorem dX0_readPicket_37 : decode cX0_readPicket 37 = .ok (.getfield 142, 3) := by decide +kernel
theorem dX0_readPicket_40 : decode cX0_readPicket 40 = .ok (.iload_n 1, 1) := by decide +kernel
theorem dX0_readPicket_41 : decode cX0_readPicket 41 = .ok (.iconst 0, 1) := by decide +kernel
theorem dX0_readPicket_42 : decode cX0_readPicket 42 = .ok (.aload_n 0, 1) := by decide +kernel
theorem dX0_readPicket_43 : decode cX0_readPicket 43 = .ok (.invokevirtual 99, 3) := by decide +kernel
theorem dX0_readPicket_46 : decode cX0_readPicket 46 = .ok (.invokevirtual 148, 3) := by decide +kernel
theorem dX0_readPicket_49 : decode cX0_readPicket 49 = .ok (.aload_n 0, 1) := by decide +kernel
theorem dX0_readPicket_50 : decode cX0_readPicket 50 = .ok (.getfield 15, 3) := by decide +kernel
theorem dX0_readPicket_53 : decode cX0_readPicket 53 = .ok (.getfield 142, 3) := by decide +kernel
theorem dX0_readPicket_56 : decode cX0_readPicket 56 = .ok (.iload_n 1, 1) := by decide +kernel
theorem dX0_readPicket_57 : decode cX0_readPicket 57 = .ok (.iconst 1, 1) := by decide +kernel
theorem dX0_readPicket_58 : decode cX0_readPicket 58 = .ok (.aload_n 0, 1) := by decide +kernel
theorem dX0_readPicket_59 : decode cX0_readPicket 59 = .ok (.invokevirtual 102, 3) := by decide +kernel
theorem dX0_readPicket_62 : decode cX0_readPicket 62 = .ok (.invokevirtual 148, 3) := by decide +kernel
theorem dX0_readPicket_65 : decode cX0_readPicket 65 = .ok (.aload_n 0, 1) := by decide +kernel
theorem dX0_readPicket_66 : decode cX0_readPicket 66 = .ok (.getfield 15, 3) := by decide +kernel
theorem dX0_readPicket_69 : decode cX0_readPicket 69 = .ok (.getfield 142, 3) := by decide +kernel
theorem dX0_readPicket_72 : decode cX0_readPicket 72 = .ok (.iload_n 1, 1) := by decide +kernel
theorem dX0_readPicket_73 : decode cX0_readPicket 73 = .ok (.iconst 2, 1) := by decide +kernel
theorem dX0_readPicket_74 : decode cX0_readPicket 74 = .ok (.aload_n 0, 1) := by decide +kernel
theorem dX0_readPicket_75 : decode cX0_readPicket 75 = .ok (.iconst 0, 1) := by decide +kernel
theorem dX0_readPicket_76 : decode cX0_readPicket 76 = .ok (.iconst 3, 1) := by decide +kernel
theorem dX0_readPicket_77 : decode cX0_readPicket 77 = .ok (.invokevirtual 42, 3) := by decide +kernel
theorem dX0_readPicket_80 : decode cX0_readPicket 80 = .ok (.invokevirtual 148, 3) := by decide +kernel
theorem dX0_readPicket_83 : decode cX0_readPicket 83 = .ok (.aload_n 0, 1) := by decide +kernel
theorem dX0_readPicket_84 : decode cX0_readPicket 84 = .ok (.iconst 1, 1) := by decide +kernel
theorem dX0_readPicket_85 : decode cX0_readPicket 85 = .ok (.bipush 20, 2) := by decide +kernel
theorem dX0_readPicket_87 : decode cX0_readPicket 87 = .ok (.invokevirtual 42, 3) := by decide +kernel
theorem dX0_readPicket_90 : decode cX0_readPicket 90 = .ok (.istore_n 2, 1) := by decide +kernel
theorem dX0_readPicket_91 : decode cX0_readPicket 91 = .ok (.aload_n 0, 1) := by decide +kernel
theorem dX0_readPicket_92 : decode cX0_readPicket 92 = .ok (.getfield 15, 3) := by decide +kernel
theorem dX0_readPicket_95 : decode cX0_readPicket 95 = .ok (.getfield 142, 3) := by decide +kernel
theorem dX0_readPicket_98 : decode cX0_readPicket 98 = .ok (.iload_n 1, 1) := by decide +kernel
theorem dX0_readPicket_99 : decode cX0_readPicket 99 = .ok (.iconst 3, 1) := by decide +kernel
theorem dX0_readPicket_100 : decode cX0_readPicket 100 = .ok (.iload_n 2, 1) := by decide +kernel
theorem dX0_readPicket_101 : decode cX0_readPicket 101 = .ok (.invokevirtual 148, 3) := by decide +kernel
theorem dX0_readPicket_104 : decode cX0_readPicket 104 = .ok (.aload_n 0, 1) := by decide +kernel
theorem dX0_readPicket_105 : decode cX0_readPicket 105 = .ok (.iconst 0, 1) := by decide +kernel
theorem dX0_readPicket_106 : decode cX0_readPicket 106 = .ok (.iload_n 2, 1) := by decide +kernel
theorem dX0_readPicket_107 : decode cX0_readPicket 107 = .ok (.iconst 1, 1) := by decide +kernel
theorem dX0_readPicket_108 : decode cX0_readPicket 108 = .ok (.isub, 1) := by decide +kernel
theorem dX0_readPicket_109 : decode cX0_readPicket 109 = .ok (.invokevirtual 42, 3) := by decide +kernel
theorem dX0_readPicket_112 : decode cX0_readPicket 112 = .ok (.istore_n 3, 1) := by decide +kernel
theorem dX0_readPicket_113 : decode cX0_readPicket 113 = .ok (.aload_n 0, 1) := by decide +kernel
theorem dX0_readPicket_114 : decode cX0_readPicket 114 = .ok (.getfield 15, 3) := by decide +kernel
theorem dX0_readPicket_117 : decode cX0_readPicket 117 = .ok (.getfield 142, 3) := by decide +kernel
theorem dX0_readPicket_120 : decode cX0_readPicket 120 = .ok (.iload_n 1, 1) := by decide +kernel
theorem dX0_readPicket_121 : decode cX0_readPicket 121 = .ok (.iconst 4, 1) := by decide +kernel
theorem dX0_readPicket_122 : decode cX0_readPicket 122 = .ok (.iload_n 3, 1) := by decide +kernel
theorem dX0_readPicket_123 : decode cX0_readPicket 123 = .ok (.invokevirtual 148, 3) := by decide +kernel
theorem dX0_readPicket_126 : decode cX0_readPicket 126 = .ok (.aload_n 0, 1) := by decide +kernel
theorem dX0_readPicket_127 : decode cX0_readPicket 127 = .ok (.iconst 0, 1) := by decide +kernel
theorem dX0_readPicket_128 : decode cX0_readPicket 128 = .ok (.iload_n 2, 1) := by decide +kernel
theorem dX0_readPicket_129 : decode cX0_readPicket 129 = .ok (.iconst 1, 1) := by decide +kernel
theorem dX0_readPicket_130 : decode cX0_readPicket 130 = .ok (.isub, 1) := by decide +kernel
theorem dX0_readPicket_131 : decode cX0_readPicket 131 = .ok (.invokevirtual 42, 3) := by decide +kernel
theorem dX0_readPicket_134 : decode cX0_readPicket 134 = .ok (.istore 4, 2) := by decide +kernel
theorem dX0_readPicket_136 : decode cX0_readPicket 136 = .ok (.iload 4, 2) := by decide +kernel
theorem dX0_readPicket_138 : decode cX0_readPicket 138 = .ok (.iload_n 3, 1) := by decide +kernel
theorem dX0_readPicket_139 : decode cX0_readPicket 139 = .ok (.if_icmp .ge 11, 3) := by decide +kernel
theorem dX0_readPicket_142 : decode cX0_readPicket 142 = .ok (.aload_n 0, 1) := by decide +kernel
theorem dX0_readPicket_143 : decode cX0_readPicket 143 = .ok (.getfield 9, 3) := by decide +kernel
theorem dX0_readPicket_146 : decode cX0_readPicket 146 = .ok (.iconst 4, 1) := by decide +kernel
theorem dX0_readPicket_147 : decode cX0_readPicket 147 = .ok (.invokevirtual 39, 3) := by decide +kernel
theorem dX0_readPicket_150 : decode cX0_readPicket 150 = .ok (.aload_n 0, 1) := by decide +kernel
theorem dX0_readPicket_151 : decode cX0_readPicket 151 = .ok (.getfield 15, 3) := by decide +kernel
theorem dX0_readPicket_154 : decode cX0_readPicket 154 = .ok (.getfield 142, 3) := by decide +kernel
theorem dX0_readPicket_157 : decode cX0_readPicket 157 = .ok (.iload_n 1, 1) := by decide +kernel
theorem dX0_readPicket_158 : decode cX0_readPicket 158 = .ok (.iconst 5, 1) := by decide +kernel
theorem dX0_readPicket_159 : decode cX0_readPicket 159 = .ok (.iload 4, 2) := by decide +kernel
theorem dX0_readPicket_161 : decode cX0_readPicket 161 = .ok (.invokevirtual 148, 3) := by decide +kernel
theorem dX0_readPicket_164 : decode cX0_readPicket 164 = .ok (.aload_n 0, 1) := by decide +kernel
theorem dX0_readPicket_165 : decode cX0_readPicket 165 = .ok (.getfield 15, 3) := by decide +kernel
theorem dX0_readPicket_168 : decode cX0_readPicket 168 = .ok (.getfield 142, 3) := by decide +kernel
theorem dX0_readPicket_171 : decode cX0_readPicket 171 = .ok (.iload_n 1, 1) := by decide +kernel
theorem dX0_readPicket_172 : decode cX0_readPicket 172 = .ok (.bipush 7, 2) := by decide +kernel
theorem dX0_readPicket_174 : decode cX0_readPicket 174 = .ok (.iconst 0, 1) := by decide +kernel
theorem dX0_readPicket_175 : decode cX0_readPicket 175 = .ok (.invokevirtual 148, 3) := by decide +kernel
theorem dX0_readPicket_178 : decode cX0_readPicket 178 = .ok (.return_, 1) := by decide +kernel
theorem dX0_readPlan_0 : decode cX0_readPlan 0 = .ok (.aload_n 0, 1) := by decide +kernel
theorem dX0_readPlan_1 : decode cX0_readPlan 1 = .ok (.getfield 15, 3) := by decide +kernel
theorem dX0_readPlan_4 : decode cX0_readPlan 4 = .ok (.getfield 152, 3) := by decide +kernel
theorem dX0_readPlan_7 : decode cX0_readPlan 7 = .ok (.invokevirtual 133, 3) := by decide +kernel
theorem dX0_readPlan_10 : decode cX0_readPlan 10 = .ok (.bipush 20, 2) := by decide +kernel
theorem dX0_readPlan_12 : decode cX0_readPlan 12 = .ok (.if_icmp .lt 11, 3) := by decide +kernel
theorem dX0_readPlan_15 : decode cX0_readPlan 15 = .ok (.aload_n 0, 1) := by decide +kernel
theorem dX0_readPlan_16 : decode cX0_readPlan 16 = .ok (.getfield 9, 3) := by decide +kernel
theorem dX0_readPlan_19 : decode cX0_readPlan 19 = .ok (.iconst 3, 1) := by decide +kernel
theorem dX0_readPlan_20 : decode cX0_readPlan 20 = .ok (.invokevirtual 39, 3) := by decide +kernel
theorem dX0_readPlan_23 : decode cX0_readPlan 23 = .ok (.aload_n 0, 1) := by decide +kernel
theorem dX0_readPlan_24 : decode cX0_readPlan 24 = .ok (.iconst 0, 1) := by decide +kernel
theorem dX0_readPlan_25 : decode cX0_readPlan 25 = .ok (.aload_n 0, 1) := by decide +kernel
theorem dX0_readPlan_26 : decode cX0_readPlan 26 = .ok (.getfield 15, 3) := by decide +kernel
theorem dX0_readPlan_29 : decode cX0_readPlan 29 = .ok (.getfield 129, 3) := by decide +kernel
theorem dX0_readPlan_32 : decode cX0_readPlan 32 = .ok (.invokevirtual 133, 3) := by decide +kernel
theorem dX0_readPlan_35 : decode cX0_readPlan 35 = .ok (.iconst 1, 1) := by decide +kernel
theorem dX0_readPlan_36 : decode cX0_readPlan 36 = .ok (.isub, 1) := by decide +kernel
theorem dX0_readPlan_37 : decode cX0_readPlan 37 = .ok (.invokevirtual 42, 3) := by decide +kernel
theorem dX0_readPlan_40 : decode cX0_readPlan 40 = .ok (.istore_n 1, 1) := by decide +kernel
theorem dX0_readPlan_41 : decode cX0_readPlan 41 = .ok (.aload_n 0, 1) := by decide +kernel
theorem dX0_readPlan_42 : decode cX0_readPlan 42 = .ok (.invokevirtual 99, 3) := by decide +kernel
theorem dX0_readPlan_45 : decode cX0_readPlan 45 = .ok (.istore_n 2, 1) := by decide +kernel
theorem dX0_readPlan_46 : decode cX0_readPlan 46 = .ok (.aload_n 0, 1) := by decide +kernel
theorem dX0_readPlan_47 : decode cX0_readPlan 47 = .ok (.iload_n 2, 1) := by decide +kernel
theorem dX0_readPlan_48 : decode cX0_readPlan 48 = .ok (.invokevirtual 119, 3) := by decide +kernel
theorem dX0_readPlan_51 : decode cX0_readPlan 51 = .ok (.istore_n 3, 1) := by decide +kernel
theorem dX0_readPlan_52 : decode cX0_readPlan 52 = .ok (.aload_n 0, 1) := by decide +kernel
theorem dX0_readPlan_53 : decode cX0_readPlan 53 = .ok (.iconst 0, 1) := by decide +kernel
theorem dX0_readPlan_54 : decode cX0_readPlan 54 = .ok (.sipush 499, 3) := by decide +kernel
theorem dX0_readPlan_57 : decode cX0_readPlan 57 = .ok (.invokevirtual 42, 3) := by decide +kernel
theorem dX0_readPlan_60 : decode cX0_readPlan 60 = .ok (.istore 4, 2) := by decide +kernel
theorem dX0_readPlan_62 : decode cX0_readPlan 62 = .ok (.aload_n 0, 1) := by decide +kernel
theorem dX0_readPlan_63 : decode cX0_readPlan 63 = .ok (.getfield 15, 3) := by decide +kernel
theorem dX0_readPlan_66 : decode cX0_readPlan 66 = .ok (.getfield 152, 3) := by decide +kernel
theorem dX0_readPlan_69 : decode cX0_readPlan 69 = .ok (.invokevirtual 145, 3) := by decide +kernel
theorem dX0_readPlan_72 : decode cX0_readPlan 72 = .ok (.istore 5, 2) := by decide +kernel
theorem dX0_readPlan_74 : decode cX0_readPlan 74 = .ok (.aload_n 0, 1) := by decide +kernel
theorem dX0_readPlan_75 : decode cX0_readPlan 75 = .ok (.getfield 15, 3) := by decide +kernel
theorem dX0_readPlan_78 : decode cX0_readPlan 78 = .ok (.getfield 152, 3) := by decide +kernel
theorem dX0_readPlan_81 : decode cX0_readPlan 81 = .ok (.iload 5, 2) := by decide +kernel
theorem dX0_readPlan_83 : decode cX0_readPlan 83 = .ok (.iconst 0, 1) := by decide +kernel
theorem dX0_readPlan_84 : decode cX0_readPlan 84 = .ok (.iload_n 1, 1) := by decide +kernel
theorem dX0_readPlan_85 : decode cX0_readPlan 85 = .ok (.invokevirtual 148, 3) := by decide +kernel
theorem dX0_readPlan_88 : decode cX0_readPlan 88 = .ok (.aload_n 0, 1) := by decide +kernel
theorem dX0_readPlan_89 : decode cX0_readPlan 89 = .ok (.getfield 15, 3) := by decide +kernel
theorem dX0_readPlan_92 : decode cX0_readPlan 92 = .ok (.getfield 152, 3) := by decide +kernel
theorem dX0_readPlan_95 : decode cX0_readPlan 95 = .ok (.iload 5, 2) := by decide +kernel
theorem dX0_readPlan_97 : decode cX0_readPlan 97 = .ok (.iconst 1, 1) := by decide +kernel
theorem dX0_readPlan_98 : decode cX0_readPlan 98 = .ok (.iload_n 2, 1) := by decide +kernel
theorem dX0_readPlan_99 : decode cX0_readPlan 99 = .ok (.invokevirtual 148, 3) := by decide +kernel
theorem dX0_readPlan_102 : decode cX0_readPlan 102 = .ok (.aload_n 0, 1) := by decide +kernel
theorem dX0_readPlan_103 : decode cX0_readPlan 103 = .ok (.getfield 15, 3) := by decide +kernel
theorem dX0_readPlan_106 : decode cX0_readPlan 106 = .ok (.getfield 152, 3) := by decide +kernel
theorem dX0_readPlan_109 : decode cX0_readPlan 109 = .ok (.iload 5, 2) := by decide +kernel
theorem dX0_readPlan_111 : decode cX0_readPlan 111 = .ok (.iconst 2, 1) := by decide +kernel
theorem dX0_readPlan_112 : decode cX0_readPlan 112 = .ok (.iload_n 3, 1) := by decide +kernel
theorem dX0_readPlan_113 : decode cX0_readPlan 113 = .ok (.invokevirtual 148, 3) := by decide +kernel
theorem dX0_readPlan_116 : decode cX0_readPlan 116 = .ok (.aload_n 0, 1) := by decide +kernel
theorem dX0_readPlan_117 : decode cX0_readPlan 117 = .ok (.getfield 15, 3) := by decide +kernel
theorem dX0_readPlan_120 : decode cX0_readPlan 120 = .ok (.getfield 152, 3) := by decide +kernel
theorem dX0_readPlan_123 : decode cX0_readPlan 123 = .ok (.iload 5, 2) := by decide +kernel
theorem dX0_readPlan_125 : decode cX0_readPlan 125 = .ok (.iconst 3, 1) := by decide +kernel
theorem dX0_readPlan_126 : decode cX0_readPlan 126 = .ok (.iload 4, 2) := by decide +kernel
theorem dX0_readPlan_128 : decode cX0_readPlan 128 = .ok (.invokevirtual 148, 3) := by decide +kernel
theorem dX0_readPlan_131 : decode cX0_readPlan 131 = .ok (.return_, 1) := by decide +kernel
theorem dX0_readColumn_0 : decode cX0_readColumn 0 = .ok (.aload_n 0, 1) := by decide +kernel
theorem dX0_readColumn_1 : decode cX0_readColumn 1 = .ok (.iconst 0, 1) := by decide +kernel
theorem dX0_readColumn_2 : decode cX0_readColumn 2 = .ok (.aload_n 0, 1) := by decide +kernel
theorem dX0_readColumn_3 : decode cX0_readColumn 3 = .ok (.getfield 15, 3) := by decide +kernel
theorem dX0_readColumn_6 : decode cX0_readColumn 6 = .ok (.getfield 49, 3) := by decide +kernel
theorem dX0_readColumn_9 : decode cX0_readColumn 9 = .ok (.iconst 1, 1) := by decide +kernel
theorem dX0_readColumn_10 : decode cX0_readColumn 10 = .ok (.isub, 1) := by decide +kernel
theorem dX0_readColumn_11 : decode cX0_readColumn 11 = .ok (.invokevirtual 42, 3) := by decide +kernel
theorem dX0_readColumn_14 : decode cX0_readColumn 14 = .ok (.ireturn, 1) := by decide +kernel
theorem dX0_readRow_0 : decode cX0_readRow 0 = .ok (.aload_n 0, 1) := by decide +kernel
theorem dX0_readRow_1 : decode cX0_readRow 1 = .ok (.iconst 0, 1) := by decide +kernel
theorem dX0_readRow_2 : decode cX0_readRow 2 = .ok (.aload_n 0, 1) := by decide +kernel
theorem dX0_readRow_3 : decode cX0_readRow 3 = .ok (.getfield 15, 3) := by decide +kernel
theorem dX0_readRow_6 : decode cX0_readRow 6 = .ok (.getfield 53, 3) := by decide +kernel
theorem dX0_readRow_9 : decode cX0_readRow 9 = .ok (.iconst 1, 1) := by decide +kernel
theorem dX0_readRow_10 : decode cX0_readRow 10 = .ok (.isub, 1) := by decide +kernel
theorem dX0_readRow_11 : decode cX0_readRow 11 = .ok (.invokevirtual 42, 3) := by decide +kernel
theorem dX0_readRow_14 : decode cX0_readRow 14 = .ok (.ireturn, 1) := by decide +kernel
theorem dX0_readFreeRow_0 : decode cX0_readFreeRow 0 = .ok (.aload_n 0, 1) := by decide +kernel
theorem dX0_readFreeRow_1 : decode cX0_readFreeRow 1 = .ok (.iconst 0, 1) := by decide +kernel
theorem dX0_readFreeRow_2 : decode cX0_readFreeRow 2 = .ok (.aload_n 0, 1) := by decide +kernel
theorem dX0_readFreeRow_3 : decode cX0_readFreeRow 3 = .ok (.getfield 15, 3) := by decide +kernel
theorem dX0_readFreeRow_6 : decode cX0_readFreeRow 6 = .ok (.getfield 53, 3) := by decide +kernel
theorem dX0_readFreeRow_9 : decode cX0_readFreeRow 9 = .ok (.iconst 1, 1) := by decide +kernel
theorem dX0_readFreeRow_10 : decode cX0_readFreeRow 10 = .ok (.isub, 1) := by decide +kernel
theorem dX0_readFreeRow_11 : decode cX0_readFreeRow 11 = .ok (.invokevirtual 42, 3) := by decide +kernel
theorem dX0_readFreeRow_14 : decode cX0_readFreeRow 14 = .ok (.istore_n 2, 1) := by decide +kernel
theorem dX0_readFreeRow_15 : decode cX0_readFreeRow 15 = .ok (.aload_n 0, 1) := by decide +kernel
theorem dX0_readFreeRow_16 : decode cX0_readFreeRow 16 = .ok (.getfield 15, 3) := by decide +kernel
theorem dX0_readFreeRow_19 : decode cX0_readFreeRow 19 = .ok (.iload_n 1, 1) := by decide +kernel
theorem dX0_readFreeRow_20 : decode cX0_readFreeRow 20 = .ok (.iload_n 2, 1) := by decide +kernel
theorem dX0_readFreeRow_21 : decode cX0_readFreeRow 21 = .ok (.invokevirtual 105, 3) := by decide +kernel
theorem dX0_readFreeRow_24 : decode cX0_readFreeRow 24 = .ok (.ifCond .eq 11, 3) := by decide +kernel
theorem dX0_readFreeRow_27 : decode cX0_readFreeRow 27 = .ok (.aload_n 0, 1) := by decide +kernel
theorem dX0_readFreeRow_28 : decode cX0_readFreeRow 28 = .ok (.getfield 9, 3) := by decide +kernel
theorem dX0_readFreeRow_31 : decode cX0_readFreeRow 31 = .ok (.iconst 4, 1) := by decide +kernel
theorem dX0_readFreeRow_32 : decode cX0_readFreeRow 32 = .ok (.invokevirtual 39, 3) := by decide +kernel
theorem dX0_readFreeRow_35 : decode cX0_readFreeRow 35 = .ok (.iload_n 2, 1) := by decide +kernel
theorem dX0_readFreeRow_36 : decode cX0_readFreeRow 36 = .ok (.ireturn, 1) := by decide +kernel
theorem dX0_readNumber_0 : decode cX0_readNumber 0 = .ok (.aload_n 0, 1) := by decide +kernel
theorem dX0_readNumber_1 : decode cX0_readNumber 1 = .ok (.getfield 9, 3) := by decide +kernel
theorem dX0_readNumber_4 : decode cX0_readNumber 4 = .ok (.invokevirtual 56, 3) := by decide +kernel
theorem dX0_readNumber_7 : decode cX0_readNumber 7 = .ok (.ifCond .ne 5, 3) := by decide +kernel
theorem dX0_readNumber_10 : decode cX0_readNumber 10 = .ok (.iload_n 1, 1) := by decide +kernel
theorem dX0_readNumber_11 : decode cX0_readNumber 11 = .ok (.ireturn, 1) := by decide +kernel
theorem dX0_readNumber_12 : decode cX0_readNumber 12 = .ok (.aload_n 0, 1) := by decide +kernel
theorem dX0_readNumber_13 : decode cX0_readNumber 13 = .ok (.getfield 9, 3) := by decide +kernel
theorem dX0_readNumber_16 : decode cX0_readNumber 16 = .ok (.invokevirtual 30, 3) := by decide +kernel
theorem dX0_readNumber_19 : decode cX0_readNumber 19 = .ok (.aload_n 0, 1) := by decide +kernel
theorem dX0_readNumber_20 : decode cX0_readNumber 20 = .ok (.getfield 9, 3) := by decide +kernel
theorem dX0_readNumber_23 : decode cX0_readNumber 23 = .ok (.invokevirtual 155, 3) := by decide +kernel
theorem dX0_readNumber_26 : decode cX0_readNumber 26 = .ok (.ifCond .ne 13, 3) := by decide +kernel
theorem dX0_readNumber_29 : decode cX0_readNumber 29 = .ok (.aload_n 0, 1) := by decide +kernel
theorem dX0_readNumber_30 : decode cX0_readNumber 30 = .ok (.getfield 9, 3) := by decide +kernel
theorem dX0_readNumber_33 : decode cX0_readNumber 33 = .ok (.iconst 1, 1) := by decide +kernel
theorem dX0_readNumber_34 : decode cX0_readNumber 34 = .ok (.invokevirtual 39, 3) := by decide +kernel
theorem dX0_readNumber_37 : decode cX0_readNumber 37 = .ok (.iload_n 1, 1) := by decide +kernel
theorem dX0_readNumber_38 : decode cX0_readNumber 38 = .ok (.ireturn, 1) := by decide +kernel
theorem dX0_readNumber_39 : decode cX0_readNumber 39 = .ok (.aload_n 0, 1) := by decide +kernel
theorem dX0_readNumber_40 : decode cX0_readNumber 40 = .ok (.getfield 9, 3) := by decide +kernel
theorem dX0_readNumber_43 : decode cX0_readNumber 43 = .ok (.invokevirtual 158, 3) := by decide +kernel
theorem dX0_readNumber_46 : decode cX0_readNumber 46 = .ok (.istore_n 3, 1) := by decide +kernel
theorem dX0_readNumber_47 : decode cX0_readNumber 47 = .ok (.iload_n 3, 1) := by decide +kernel
theorem dX0_readNumber_48 : decode cX0_readNumber 48 = .ok (.iload_n 1, 1) := by decide +kernel
theorem dX0_readNumber_49 : decode cX0_readNumber 49 = .ok (.if_icmp .lt 8, 3) := by decide +kernel
theorem dX0_readNumber_52 : decode cX0_readNumber 52 = .ok (.iload_n 3, 1) := by decide +kernel
theorem dX0_readNumber_53 : decode cX0_readNumber 53 = .ok (.iload_n 2, 1) := by decide +kernel
theorem dX0_readNumber_54 : decode cX0_readNumber 54 = .ok (.if_icmp .le 13, 3) := by decide +kernel
theorem dX0_readNumber_57 : decode cX0_readNumber 57 = .ok (.aload_n 0, 1) := by decide +kernel
theorem dX0_readNumber_58 : decode cX0_readNumber 58 = .ok (.getfield 9, 3) := by decide +kernel
theorem dX0_readNumber_61 : decode cX0_readNumber 61 = .ok (.iconst 2, 1) := by decide +kernel
theorem dX0_readNumber_62 : decode cX0_readNumber 62 = .ok (.invokevirtual 39, 3) := by decide +kernel
theorem dX0_readNumber_65 : decode cX0_readNumber 65 = .ok (.iload_n 1, 1) := by decide +kernel
theorem dX0_readNumber_66 : decode cX0_readNumber 66 = .ok (.ireturn, 1) := by decide +kernel
theorem dX0_readNumber_67 : decode cX0_readNumber 67 = .ok (.iload_n 3, 1) := by decide +kernel
theorem dX0_readNumber_68 : decode cX0_readNumber 68 = .ok (.ireturn, 1) := by decide +kernel
theorem dX0_readSemicolon_0 : decode cX0_readSemicolon 0 = .ok (.aload_n 0, 1) := by decide +kernel
theorem dX0_readSemicolon_1 : decode cX0_readSemicolon 1 = .ok (.getfield 9, 3) := by decide +kernel
theorem dX0_readSemicolon_4 : decode cX0_readSemicolon 4 = .ok (.invokevirtual 56, 3) := by decide +kernel
theorem dX0_readSemicolon_7 : decode cX0_readSemicolon 7 = .ok (.ifCond .ne 4, 3) := by decide +kernel
theorem dX0_readSemicolon_10 : decode cX0_readSemicolon 10 = .ok (.return_, 1) := by decide +kernel
theorem dX0_readSemicolon_11 : decode cX0_readSemicolon 11 = .ok (.aload_n 0, 1) := by decide +kernel
theorem dX0_readSemicolon_12 : decode cX0_readSemicolon 12 = .ok (.getfield 9, 3) := by decide +kernel
theorem dX0_readSemicolon_15 : decode cX0_readSemicolon 15 = .ok (.invokevirtual 30, 3) := by decide +kernel
theorem dX0_readSemicolon_18 : decode cX0_readSemicolon 18 = .ok (.aload_n 0, 1) := by decide +kernel
theorem dX0_readSemicolon_19 : decode cX0_readSemicolon 19 = .ok (.getfield 9, 3) := by decide +kernel
theorem dX0_readSemicolon_22 : decode cX0_readSemicolon 22 = .ok (.bipush 59, 2) := by decide +kernel
theorem dX0_readSemicolon_24 : decode cX0_readSemicolon 24 = .ok (.invokevirtual 161, 3) := by decide +kernel
theorem dX0_readSemicolon_27 : decode cX0_readSemicolon 27 = .ok (.ifCond .ne 11, 3) := by decide +kernel
theorem dX0_readSemicolon_30 : decode cX0_readSemicolon 30 = .ok (.aload_n 0, 1) := by decide +kernel
theorem dX0_readSemicolon_31 : decode cX0_readSemicolon 31 = .ok (.getfield 9, 3) := by decide +kernel
theorem dX0_readSemicolon_34 : decode cX0_readSemicolon 34 = .ok (.iconst 1, 1) := by decide +kernel
theorem dX0_readSemicolon_35 : decode cX0_readSemicolon 35 = .ok (.invokevirtual 39, 3) := by decide +kernel
theorem dX0_readSemicolon_38 : decode cX0_readSemicolon 38 = .ok (.return_, 1) := by decide +kernel
theorem dX1_init_0 : decode cX1_init 0 = .ok (.aload_n 0, 1) := by decide +kernel
theorem dX1_init_1 : decode cX1_init 1 = .ok (.invokespecial 3, 3) := by decide +kernel
theorem dX1_init_4 : decode cX1_init 4 = .ok (.aload_n 0, 1) := by decide +kernel
theorem dX1_init_5 : decode cX1_init 5 = .ok (.aload_n 1, 1) := by decide +kernel
theorem dX1_init_6 : decode cX1_init 6 = .ok (.putfield 9, 3) := by decide +kernel
theorem dX1_init_9 : decode cX1_init 9 = .ok (.return_, 1) := by decide +kernel
theorem dX1_passTurn_0 : decode cX1_passTurn 0 = .ok (.aload_n 0, 1) := by decide +kernel
theorem dX1_passTurn_1 : decode cX1_passTurn 1 = .ok (.aload_n 1, 1) := by decide +kernel
theorem dX1_passTurn_2 : decode cX1_passTurn 2 = .ok (.invokevirtual 15, 3) := by decide +kernel
theorem dX1_passTurn_5 : decode cX1_passTurn 5 = .ok (.aload_n 1, 1) := by decide +kernel
theorem dX1_passTurn_6 : decode cX1_passTurn 6 = .ok (.getfield 19, 3) := by decide +kernel
theorem dX1_passTurn_9 : decode cX1_passTurn 9 = .ok (.invokevirtual 25, 3) := by decide +kernel
theorem dX1_passTurn_12 : decode cX1_passTurn 12 = .ok (.istore_n 2, 1) := by decide +kernel
theorem dX1_passTurn_13 : decode cX1_passTurn 13 = .ok (.iconst 0, 1) := by decide +kernel
theorem dX1_passTurn_14 : decode cX1_passTurn 14 = .ok (.istore_n 3, 1) := by decide +kernel
theorem dX1_passTurn_15 : decode cX1_passTurn 15 = .ok (.iload_n 3, 1) := by decide +kernel
theorem dX1_passTurn_16 : decode cX1_passTurn 16 = .ok (.iload_n 2, 1) := by decide +kernel
theorem dX1_passTurn_17 : decode cX1_passTurn 17 = .ok (.if_icmp .ge 27, 3) := by decide +kernel
theorem dX1_passTurn_20 : decode cX1_passTurn 20 = .ok (.aload_n 1, 1) := by decide +kernel
theorem dX1_passTurn_21 : decode cX1_passTurn 21 = .ok (.getfield 19, 3) := by decide +kernel
theorem dX1_passTurn_24 : decode cX1_passTurn 24 = .ok (.iload_n 3, 1) := by decide +kernel
theorem dX1_passTurn_25 : decode cX1_passTurn 25 = .ok (.iconst 3, 1) := by decide +kernel
theorem dX1_passTurn_26 : decode cX1_passTurn 26 = .ok (.invokevirtual 31, 3) := by decide +kernel
theorem dX1_passTurn_29 : decode cX1_passTurn 29 = .ok (.ifCond .ne 9, 3) := by decide +kernel
theorem dX1_passTurn_32 : decode cX1_passTurn 32 = .ok (.aload_n 0, 1) := by decide +kernel
theorem dX1_passTurn_33 : decode cX1_passTurn 33 = .ok (.aload_n 1, 1) := by decide +kernel
theorem dX1_passTurn_34 : decode cX1_passTurn 34 = .ok (.iload_n 3, 1) := by decide +kernel
theorem dX1_passTurn_35 : decode cX1_passTurn 35 = .ok (.invokevirtual 35, 3) := by decide +kernel
theorem dX1_passTurn_38 : decode cX1_passTurn 38 = .ok (.iinc 3 1, 3) := by decide +kernel
theorem dX1_passTurn_41 : decode cX1_passTurn 41 = .ok (.goto (-26), 3) := by decide +kernel
theorem dX1_passTurn_44 : decode cX1_passTurn 44 = .ok (.iconst 0, 1) := by decide +kernel
theorem dX1_passTurn_45 : decode cX1_passTurn 45 = .ok (.istore_n 3, 1) := by decide +kernel
theorem dX1_passTurn_46 : decode cX1_passTurn 46 = .ok (.iload_n 3, 1) := by decide +kernel
theorem dX1_passTurn_47 : decode cX1_passTurn 47 = .ok (.iload_n 2, 1) := by decide +kernel
theorem dX1_passTurn_48 : decode cX1_passTurn 48 = .ok (.if_icmp .ge 52, 3) := by decide +kernel
theorem dX1_passTurn_51 : decode cX1_passTurn 51 = .ok (.aload_n 1, 1) := by decide +kernel
theorem dX1_passTurn_52 : decode cX1_passTurn 52 = .ok (.getfield 39, 3) := by decide +kernel
theorem dX1_passTurn_55 : decode cX1_passTurn 55 = .ok (.aload_n 1, 1) := by decide +kernel
theorem dX1_passTurn_56 : decode cX1_passTurn 56 = .ok (.getfield 19, 3) := by decide +kernel
theorem dX1_passTurn_59 : decode cX1_passTurn 59 = .ok (.iload_n 3, 1) := by decide +kernel
theorem dX1_passTurn_60 : decode cX1_passTurn 60 = .ok (.iconst 4, 1) := by decide +kernel
theorem dX1_passTurn_61 : decode cX1_passTurn 61 = .ok (.invokevirtual 31, 3) := by decide +kernel
theorem dX1_passTurn_64 : decode cX1_passTurn 64 = .ok (.isub, 1) := by decide +kernel
theorem dX1_passTurn_65 : decode cX1_passTurn 65 = .ok (.istore 4, 2) := by decide +kernel
theorem dX1_passTurn_67 : decode cX1_passTurn 67 = .ok (.aload_n 1, 1) := by decide +kernel
theorem dX1_passTurn_68 : decode cX1_passTurn 68 = .ok (.getfield 19, 3) := by decide +kernel
theorem dX1_passTurn_71 : decode cX1_passTurn 71 = .ok (.iload_n 3, 1) := by decide +kernel
theorem dX1_passTurn_72 : decode cX1_passTurn 72 = .ok (.iconst 3, 1) := by decide +kernel
theorem dX1_passTurn_73 : decode cX1_passTurn 73 = .ok (.invokevirtual 31, 3) := by decide +kernel
theorem dX1_passTurn_76 : decode cX1_passTurn 76 = .ok (.ifCond .ne 18, 3) := by decide +kernel
theorem dX1_passTurn_79 : decode cX1_passTurn 79 = .ok (.iload 4, 2) := by decide +kernel
theorem dX1_passTurn_81 : decode cX1_passTurn 81 = .ok (.aload_n 1, 1) := by decide +kernel
theorem dX1_passTurn_82 : decode cX1_passTurn 82 = .ok (.getfield 43, 3) := by decide +kernel
theorem dX1_passTurn_85 : decode cX1_passTurn 85 = .ok (.if_icmp .lt 9, 3) := by decide +kernel
theorem dX1_passTurn_88 : decode cX1_passTurn 88 = .ok (.aload_n 1, 1) := by decide +kernel
theorem dX1_passTurn_89 : decode cX1_passTurn 89 = .ok (.iload_n 3, 1) := by decide +kernel
theorem dX1_passTurn_90 : decode cX1_passTurn 90 = .ok (.iconst 4, 1) := by decide +kernel
theorem dX1_passTurn_91 : decode cX1_passTurn 91 = .ok (.invokevirtual 46, 3) := by decide +kernel
theorem dX1_passTurn_94 : decode cX1_passTurn 94 = .ok (.iinc 3 1, 3) := by decide +kernel
theorem dX1_passTurn_97 : decode cX1_passTurn 97 = .ok (.goto (-51), 3) := by decide +kernel
theorem dX1_passTurn_100 : decode cX1_passTurn 100 = .ok (.aload_n 1, 1) := by decide +kernel
theorem dX1_passTurn_101 : decode cX1_passTurn 101 = .ok (.getfield 50, 3) := by decide +kernel
theorem dX1_passTurn_104 : decode cX1_passTurn 104 = .ok (.invokevirtual 25, 3) := by decide +kernel
theorem dX1_passTurn_107 : decode cX1_passTurn 107 = .ok (.istore_n 3, 1) := by decide +kernel
theorem dX1_passTurn_108 : decode cX1_passTurn 108 = .ok (.iconst 0, 1) := by decide +kernel
theorem dX1_passTurn_109 : decode cX1_passTurn 109 = .ok (.istore 4, 2) := by decide +kernel
theorem dX1_passTurn_111 : decode cX1_passTurn 111 = .ok (.iload 4, 2) := by decide +kernel
theorem dX1_passTurn_113 : decode cX1_passTurn 113 = .ok (.iload_n 3, 1) := by decide +kernel
theorem dX1_passTurn_114 : decode cX1_passTurn 114 = .ok (.if_icmp .ge 16, 3) := by decide +kernel
theorem dX1_passTurn_117 : decode cX1_passTurn 117 = .ok (.aload_n 0, 1) := by decide +kernel
theorem dX1_passTurn_118 : decode cX1_passTurn 118 = .ok (.aload_n 1, 1) := by decide +kernel
theorem dX1_passTurn_119 : decode cX1_passTurn 119 = .ok (.iload 4, 2) := by decide +kernel
theorem dX1_passTurn_121 : decode cX1_passTurn 121 = .ok (.invokevirtual 53, 3) := by decide +kernel
theorem dX1_passTurn_124 : decode cX1_passTurn 124 = .ok (.iinc 4 1, 3) := by decide +kernel
theorem dX1_passTurn_127 : decode cX1_passTurn 127 = .ok (.goto (-16), 3) := by decide +kernel
theorem dX1_passTurn_130 : decode cX1_passTurn 130 = .ok (.aload_n 1, 1) := by decide +kernel
theorem dX1_passTurn_131 : decode cX1_passTurn 131 = .ok (.dup, 1) := by decide +kernel
theorem dX1_passTurn_132 : decode cX1_passTurn 132 = .ok (.getfield 39, 3) := by decide +kernel
theorem dX1_passTurn_135 : decode cX1_passTurn 135 = .ok (.iconst 1, 1) := by decide +kernel
theorem dX1_passTurn_136 : decode cX1_passTurn 136 = .ok (.iadd, 1) := by decide +kernel
theorem dX1_passTurn_137 : decode cX1_passTurn 137 = .ok (.putfield 39, 3) := by decide +kernel
theorem dX1_passTurn_140 : decode cX1_passTurn 140 = .ok (.return_, 1) := by decide +kernel
theorem dX1_sendPlanned_0 : decode cX1_sendPlanned 0 = .ok (.aload_n 1, 1) := by decide +kernel
theorem dX1_sendPlanned_1 : decode cX1_sendPlanned 1 = .ok (.getfield 56, 3) := by decide +kernel
theorem dX1_sendPlanned_4 : decode cX1_sendPlanned 4 = .ok (.astore_n 2, 1) := by decide +kernel
theorem dX1_sendPlanned_5 : decode cX1_sendPlanned 5 = .ok (.aload_n 2, 1) := by decide +kernel
theorem dX1_sendPlanned_6 : decode cX1_sendPlanned 6 = .ok (.invokevirtual 25, 3) := by decide +kernel
theorem dX1_sendPlanned_9 : decode cX1_sendPlanned 9 = .ok (.istore_n 3, 1) := by decide +kernel
theorem dX1_sendPlanned_10 : decode cX1_sendPlanned 10 = .ok (.iconst 0, 1) := by decide +kernel
theorem dX1_sendPlanned_11 : decode cX1_sendPlanned 11 = .ok (.istore 4, 2) := by decide +kernel
theorem dX1_sendPlanned_13 : decode cX1_sendPlanned 13 = .ok (.iload 4, 2) := by decide +kernel
theorem dX1_sendPlanned_15 : decode cX1_sendPlanned 15 = .ok (.iload_n 3, 1) := by decide +kernel
theorem dX1_sendPlanned_16 : decode cX1_sendPlanned 16 = .ok (.if_icmp .ge 49, 3) := by decide +kernel
theorem dX1_sendPlanned_19 : decode cX1_sendPlanned 19 = .ok (.aload_n 2, 1) := by decide +kernel
theorem dX1_sendPlanned_20 : decode cX1_sendPlanned 20 = .ok (.iload 4, 2) := by decide +kernel
theorem dX1_sendPlanned_22 : decode cX1_sendPlanned 22 = .ok (.iconst 3, 1) := by decide +kernel
theorem dX1_sendPlanned_23 : decode cX1_sendPlanned 23 = .ok (.invokevirtual 31, 3) := by decide +kernel
theorem dX1_sendPlanned_26 : decode cX1_sendPlanned 26 = .ok (.aload_n 1, 1) := by decide +kernel
theorem dX1_sendPlanned_27 : decode cX1_sendPlanned 27 = .ok (.getfield 39, 3) := by decide +kernel
theorem dX1_sendPlanned_30 : decode cX1_sendPlanned 30 = .ok (.if_icmp .ne 29, 3) := by decide +kernel
theorem dX1_sendPlanned_33 : decode cX1_sendPlanned 33 = .ok (.aload_n 1, 1) := by decide +kernel
theorem dX1_sendPlanned_34 : decode cX1_sendPlanned 34 = .ok (.aload_n 2, 1) := by decide +kernel
theorem dX1_sendPlanned_35 : decode cX1_sendPlanned 35 = .ok (.iload 4, 2) := by decide +kernel
theorem dX1_sendPlanned_37 : decode cX1_sendPlanned 37 = .ok (.iconst 0, 1) := by decide +kernel
theorem dX1_sendPlanned_38 : decode cX1_sendPlanned 38 = .ok (.invokevirtual 31, 3) := by decide +kernel
theorem dX1_sendPlanned_41 : decode cX1_sendPlanned 41 = .ok (.aload_n 2, 1) := by decide +kernel
theorem dX1_sendPlanned_42 : decode cX1_sendPlanned 42 = .ok (.iload 4, 2) := by decide +kernel
theorem dX1_sendPlanned_44 : decode cX1_sendPlanned 44 = .ok (.iconst 1, 1) := by decide +kernel
theorem dX1_sendPlanned_45 : decode cX1_sendPlanned 45 = .ok (.invokevirtual 31, 3) := by decide +kernel
theorem dX1_sendPlanned_48 : decode cX1_sendPlanned 48 = .ok (.aload_n 2, 1) := by decide +kernel
theorem dX1_sendPlanned_49 : decode cX1_sendPlanned 49 = .ok (.iload 4, 2) := by decide +kernel
theorem dX1_sendPlanned_51 : decode cX1_sendPlanned 51 = .ok (.iconst 2, 1) := by decide +kernel
theorem dX1_sendPlanned_52 : decode cX1_sendPlanned 52 = .ok (.invokevirtual 31, 3) := by decide +kernel
theorem dX1_sendPlanned_55 : decode cX1_sendPlanned 55 = .ok (.invokevirtual 59, 3) := by decide +kernel
theorem dX1_sendPlanned_58 : decode cX1_sendPlanned 58 = .ok (.pop, 1) := by decide +kernel
theorem dX1_sendPlanned_59 : decode cX1_sendPlanned 59 = .ok (.iinc 4 1, 3) := by decide +kernel
theorem dX1_sendPlanned_62 : decode cX1_sendPlanned 62 = .ok (.goto (-49), 3) := by decide +kernel
theorem dX1_sendPlanned_65 : decode cX1_sendPlanned 65 = .ok (.return_, 1) := by decide +kernel
theorem dX1_carry_0 : decode cX1_carry 0 = .ok (.aload_n 1, 1) := by decide +kernel
theorem dX1_carry_1 : decode cX1_carry 1 = .ok (.getfield 19, 3) := by decide +kernel
theorem dX1_carry_4 : decode cX1_carry 4 = .ok (.astore_n 3, 1) := by decide +kernel
theorem dX1_carry_5 : decode cX1_carry 5 = .ok (.aload_n 3, 1) := by decide +kernel
theorem dX1_carry_6 : decode cX1_carry 6 = .ok (.iload_n 2, 1) := by decide +kernel
theorem dX1_carry_7 : decode cX1_carry 7 = .ok (.iconst 0, 1) := by decide +kernel
theorem dX1_carry_8 : decode cX1_carry 8 = .ok (.invokevirtual 31, 3) := by decide +kernel
theorem dX1_carry_11 : decode cX1_carry 11 = .ok (.istore 4, 2) := by decide +kernel
theorem dX1_carry_13 : decode cX1_carry 13 = .ok (.aload_n 1, 1) := by decide +kernel
theorem dX1_carry_14 : decode cX1_carry 14 = .ok (.getfield 50, 3) := by decide +kernel
theorem dX1_carry_17 : decode cX1_carry 17 = .ok (.iload 4, 2) := by decide +kernel
theorem dX1_carry_19 : decode cX1_carry 19 = .ok (.iconst 0, 1) := by decide +kernel
theorem dX1_carry_20 : decode cX1_carry 20 = .ok (.invokevirtual 31, 3) := by decide +kernel
theorem dX1_carry_23 : decode cX1_carry 23 = .ok (.aload_n 1, 1) := by decide +kernel
theorem dX1_carry_24 : decode cX1_carry 24 = .ok (.getfield 50, 3) := by decide +kernel
theorem dX1_carry_27 : decode cX1_carry 27 = .ok (.iload 4, 2) := by decide +kernel
theorem dX1_carry_29 : decode cX1_carry 29 = .ok (.iconst 1, 1) := by decide +kernel
theorem dX1_carry_30 : decode cX1_carry 30 = .ok (.invokevirtual 31, 3) := by decide +kernel
theorem dX1_carry_33 : decode cX1_carry 33 = .ok (.invokestatic 63, 3) := by decide +kernel
theorem dX1_carry_36 : decode cX1_carry 36 = .ok (.istore 5, 2) := by decide +kernel
theorem dX1_carry_38 : decode cX1_carry 38 = .ok (.aload_n 3, 1) := by decide +kernel
theorem dX1_carry_39 : decode cX1_carry 39 = .ok (.iload_n 2, 1) := by decide +kernel
theorem dX1_carry_40 : decode cX1_carry 40 = .ok (.bipush 7, 2) := by decide +kernel
theorem dX1_carry_42 : decode cX1_carry 42 = .ok (.invokevirtual 31, 3) := by decide +kernel
theorem dX1_carry_45 : decode cX1_carry 45 = .ok (.aload_n 3, 1) := by decide +kernel
theorem dX1_carry_46 : decode cX1_carry 46 = .ok (.iload_n 2, 1) := by decide +kernel
theorem dX1_carry_47 : decode cX1_carry 47 = .ok (.bipush 8, 2) := by decide +kernel
theorem dX1_carry_49 : decode cX1_carry 49 = .ok (.invokevirtual 31, 3) := by decide +kernel
theorem dX1_carry_52 : decode cX1_carry 52 = .ok (.invokestatic 63, 3) := by decide +kernel
theorem dX1_carry_55 : decode cX1_carry 55 = .ok (.istore 6, 2) := by decide +kernel
theorem dX1_carry_57 : decode cX1_carry 57 = .ok (.iconst 0, 1) := by decide +kernel
theorem dX1_carry_58 : decode cX1_carry 58 = .ok (.istore 7, 2) := by decide +kernel
theorem dX1_carry_60 : decode cX1_carry 60 = .ok (.iload 7, 2) := by decide +kernel
theorem dX1_carry_62 : decode cX1_carry 62 = .ok (.iconst 2, 1) := by decide +kernel
theorem dX1_carry_63 : decode cX1_carry 63 = .ok (.if_icmp .ge 135, 3) := by decide +kernel
theorem dX1_carry_66 : decode cX1_carry 66 = .ok (.iload 6, 2) := by decide +kernel
theorem dX1_carry_68 : decode cX1_carry 68 = .ok (.iload 5, 2) := by decide +kernel
theorem dX1_carry_70 : decode cX1_carry 70 = .ok (.if_icmp .eq 128, 3) := by decide +kernel
theorem dX1_carry_73 : decode cX1_carry 73 = .ok (.aload_n 0, 1) := by decide +kernel
theorem dX1_carry_74 : decode cX1_carry 74 = .ok (.getfield 9, 3) := by decide +kernel
theorem dX1_carry_77 : decode cX1_carry 77 = .ok (.iload 6, 2) := by decide +kernel
theorem dX1_carry_79 : decode cX1_carry 79 = .ok (.iload 5, 2) := by decide +kernel
theorem dX1_carry_81 : decode cX1_carry 81 = .ok (.invokevirtual 66, 3) := by decide +kernel
theorem dX1_carry_84 : decode cX1_carry 84 = .ok (.istore 6, 2) := by decide +kernel
theorem dX1_carry_86 : decode cX1_carry 86 = .ok (.iload 6, 2) := by decide +kernel
theorem dX1_carry_88 : decode cX1_carry 88 = .ok (.iconst (-1), 1) := by decide +kernel
theorem dX1_carry_89 : decode cX1_carry 89 = .ok (.if_icmp .ne 4, 3) := by decide +kernel
theorem dX1_carry_92 : decode cX1_carry 92 = .ok (.return_, 1) := by decide +kernel
theorem dX1_carry_93 : decode cX1_carry 93 = .ok (.aload_n 3, 1) := by decide +kernel
theorem dX1_carry_94 : decode cX1_carry 94 = .ok (.iload_n 2, 1) := by decide +kernel
theorem dX1_carry_95 : decode cX1_carry 95 = .ok (.bipush 7, 2) := by decide +kernel
theorem dX1_carry_97 : decode cX1_carry 97 = .ok (.iload 6, 2) := by decide +kernel
theorem dX1_carry_99 : decode cX1_carry 99 = .ok (.invokestatic 71, 3) := by decide +kernel
theorem dX1_carry_102 : decode cX1_carry 102 = .ok (.invokevirtual 75, 3) := by decide +kernel
theorem dX1_carry_105 : decode cX1_carry 105 = .ok (.aload_n 3, 1) := by decide +kernel
theorem dX1_carry_106 : decode cX1_carry 106 = .ok (.iload_n 2, 1) := by decide +kernel
theorem dX1_carry_107 : decode cX1_carry 107 = .ok (.bipush 8, 2) := by decide +kernel
theorem dX1_carry_109 : decode cX1_carry 109 = .ok (.iload 6, 2) := by decide +kernel
theorem dX1_carry_111 : decode cX1_carry 111 = .ok (.invokestatic 79, 3) := by decide +kernel
theorem dX1_carry_114 : decode cX1_carry 114 = .ok (.invokevirtual 75, 3) := by decide +kernel
theorem dX1_carry_117 : decode cX1_carry 117 = .ok (.aload_n 3, 1) := by decide +kernel
theorem dX1_carry_118 : decode cX1_carry 118 = .ok (.iload_n 2, 1) := by decide +kernel
theorem dX1_carry_119 : decode cX1_carry 119 = .ok (.bipush 9, 2) := by decide +kernel
theorem dX1_carry_121 : decode cX1_carry 121 = .ok (.aload_n 3, 1) := by decide +kernel
theorem dX1_carry_122 : decode cX1_carry 122 = .ok (.iload_n 2, 1) := by decide +kernel
theorem dX1_carry_123 : decode cX1_carry 123 = .ok (.bipush 9, 2) := by decide +kernel
theorem dX1_carry_125 : decode cX1_carry 125 = .ok (.invokevirtual 31, 3) := by decide +kernel
theorem dX1_carry_128 : decode cX1_carry 128 = .ok (.iconst 1, 1) := by decide +kernel
theorem dX1_carry_129 : decode cX1_carry 129 = .ok (.iadd, 1) := by decide +kernel
theorem dX1_carry_130 : decode cX1_carry 130 = .ok (.invokevirtual 75, 3) := by decide +kernel
theorem dX1_carry_133 : decode cX1_carry 133 = .ok (.aload_n 1, 1) := by decide +kernel
theorem dX1_carry_134 : decode cX1_carry 134 = .ok (.iload 6, 2) := by decide +kernel
theorem dX1_carry_136 : decode cX1_carry 136 = .ok (.invokestatic 71, 3) := by decide +kernel
theorem dX1_carry_139 : decode cX1_carry 139 = .ok (.iload 6, 2) := by decide +kernel
theorem dX1_carry_141 : decode cX1_carry 141 = .ok (.invokestatic 79, 3) := by decide +kernel
theorem dX1_carry_144 : decode cX1_carry 144 = .ok (.aload_n 1, 1) := by decide +kernel
theorem dX1_carry_145 : decode cX1_carry 145 = .ok (.getfield 39, 3) := by decide +kernel
theorem dX1_carry_148 : decode cX1_carry 148 = .ok (.invokevirtual 82, 3) := by decide +kernel
theorem dX1_carry_151 : decode cX1_carry 151 = .ok (.istore 8, 2) := by decide +kernel
theorem dX1_carry_153 : decode cX1_carry 153 = .ok (.iload 8, 2) := by decide +kernel
theorem dX1_carry_155 : decode cX1_carry 155 = .ok (.iconst (-1), 1) := by decide +kernel
theorem dX1_carry_156 : decode cX1_carry 156 = .ok (.if_icmp .eq 36, 3) := by decide +kernel
theorem dX1_carry_159 : decode cX1_carry 159 = .ok (.aload_n 1, 1) := by decide +kernel
theorem dX1_carry_160 : decode cX1_carry 160 = .ok (.getfield 85, 3) := by decide +kernel
theorem dX1_carry_163 : decode cX1_carry 163 = .ok (.astore 9, 2) := by decide +kernel
theorem dX1_carry_165 : decode cX1_carry 165 = .ok (.aload 9, 2) := by decide +kernel
theorem dX1_carry_167 : decode cX1_carry 167 = .ok (.iload 8, 2) := by decide +kernel
theorem dX1_carry_169 : decode cX1_carry 169 = .ok (.bipush 7, 2) := by decide +kernel
theorem dX1_carry_171 : decode cX1_carry 171 = .ok (.aload 9, 2) := by decide +kernel
theorem dX1_carry_173 : decode cX1_carry 173 = .ok (.iload 8, 2) := by decide +kernel
theorem dX1_carry_175 : decode cX1_carry 175 = .ok (.bipush 7, 2) := by decide +kernel
theorem dX1_carry_177 : decode cX1_carry 177 = .ok (.invokevirtual 31, 3) := by decide +kernel
theorem dX1_carry_180 : decode cX1_carry 180 = .ok (.iconst 1, 1) := by decide +kernel
theorem dX1_carry_181 : decode cX1_carry 181 = .ok (.iadd, 1) := by decide +kernel
theorem dX1_carry_182 : decode cX1_carry 182 = .ok (.invokevirtual 75, 3) := by decide +kernel
theorem dX1_carry_185 : decode cX1_carry 185 = .ok (.aload_n 1, 1) := by decide +kernel
theorem dX1_carry_186 : decode cX1_carry 186 = .ok (.iload_n 2, 1) := by decide +kernel
theorem dX1_carry_187 : decode cX1_carry 187 = .ok (.iconst 5, 1) := by decide +kernel
theorem dX1_carry_188 : decode cX1_carry 188 = .ok (.invokevirtual 46, 3) := by decide +kernel
theorem dX1_carry_191 : decode cX1_carry 191 = .ok (.return_, 1) := by decide +kernel
theorem dX1_carry_192 : decode cX1_carry 192 = .ok (.iinc 7 1, 3) := by decide +kernel
theorem dX1_carry_195 : decode cX1_carry 195 = .ok (.goto (-135), 3) := by decide +kernel
theorem dX1_carry_198 : decode cX1_carry 198 = .ok (.iload 6, 2) := by decide +kernel
theorem dX1_carry_200 : decode cX1_carry 200 = .ok (.iload 5, 2) := by decide +kernel
theorem dX1_carry_202 : decode cX1_carry 202 = .ok (.if_icmp .ne 11, 3) := by decide +kernel
theorem dX1_carry_205 : decode cX1_carry 205 = .ok (.aload_n 0, 1) := by decide +kernel
theorem dX1_carry_206 : decode cX1_carry 206 = .ok (.aload_n 1, 1) := by decide +kernel
theorem dX1_carry_207 : decode cX1_carry 207 = .ok (.iload_n 2, 1) := by decide +kernel
theorem dX1_carry_208 : decode cX1_carry 208 = .ok (.iload 4, 2) := by decide +kernel
theorem dX1_carry_210 : decode cX1_carry 210 = .ok (.invokevirtual 88, 3) := by decide +kernel
theorem dX1_carry_213 : decode cX1_carry 213 = .ok (.return_, 1) := by decide +kernel
theorem dX1_arrive_0 : decode cX1_arrive 0 = .ok (.aload_n 1, 1) := by decide +kernel
theorem dX1_arrive_1 : decode cX1_arrive 1 = .ok (.getfield 19, 3) := by decide +kernel
theorem dX1_arrive_4 : decode cX1_arrive 4 = .ok (.iload_n 2, 1) := by decide +kernel
theorem dX1_arrive_5 : decode cX1_arrive 5 = .ok (.iconst 5, 1) := by decide +kernel
theorem dX1_arrive_6 : decode cX1_arrive 6 = .ok (.aload_n 1, 1) := by decide +kernel
theorem dX1_arrive_7 : decode cX1_arrive 7 = .ok (.getfield 39, 3) := by decide +kernel
theorem dX1_arrive_10 : decode cX1_arrive 10 = .ok (.invokevirtual 75, 3) := by decide +kernel
theorem dX1_arrive_13 : decode cX1_arrive 13 = .ok (.aload_n 1, 1) := by decide +kernel
theorem dX1_arrive_14 : decode cX1_arrive 14 = .ok (.getfield 50, 3) := by decide +kernel
theorem dX1_arrive_17 : decode cX1_arrive 17 = .ok (.iload_n 3, 1) := by decide +kernel
theorem dX1_arrive_18 : decode cX1_arrive 18 = .ok (.iconst 3, 1) := by decide +kernel
theorem dX1_arrive_19 : decode cX1_arrive 19 = .ok (.invokevirtual 31, 3) := by decide +kernel
theorem dX1_arrive_22 : decode cX1_arrive 22 = .ok (.iload_n 2, 1) := by decide +kernel
theorem dX1_arrive_23 : decode cX1_arrive 23 = .ok (.if_icmp .le 10, 3) := by decide +kernel
theorem dX1_arrive_26 : decode cX1_arrive 26 = .ok (.aload_n 1, 1) := by decide +kernel
theorem dX1_arrive_27 : decode cX1_arrive 27 = .ok (.iload_n 2, 1) := by decide +kernel
theorem dX1_arrive_28 : decode cX1_arrive 28 = .ok (.iconst 3, 1) := by decide +kernel
theorem dX1_arrive_29 : decode cX1_arrive 29 = .ok (.invokevirtual 46, 3) := by decide +kernel
theorem dX1_arrive_32 : decode cX1_arrive 32 = .ok (.return_, 1) := by decide +kernel
theorem dX1_arrive_33 : decode cX1_arrive 33 = .ok (.aload_n 1, 1) := by decide +kernel
theorem dX1_arrive_34 : decode cX1_arrive 34 = .ok (.iload_n 3, 1) := by decide +kernel
theorem dX1_arrive_35 : decode cX1_arrive 35 = .ok (.invokevirtual 92, 3) := by decide +kernel
theorem dX1_arrive_38 : decode cX1_arrive 38 = .ok (.istore 4, 2) := by decide +kernel
theorem dX1_arrive_40 : decode cX1_arrive 40 = .ok (.iload 4, 2) := by decide +kernel
theorem dX1_arrive_42 : decode cX1_arrive 42 = .ok (.iconst (-1), 1) := by decide +kernel
theorem dX1_arrive_43 : decode cX1_arrive 43 = .ok (.if_icmp .eq 11, 3) := by decide +kernel
theorem dX1_arrive_46 : decode cX1_arrive 46 = .ok (.aload_n 1, 1) := by decide +kernel
theorem dX1_arrive_47 : decode cX1_arrive 47 = .ok (.iload 4, 2) := by decide +kernel
theorem dX1_arrive_49 : decode cX1_arrive 49 = .ok (.bipush 6, 2) := by decide +kernel
theorem dX1_arrive_51 : decode cX1_arrive 51 = .ok (.invokevirtual 46, 3) := by decide +kernel
theorem dX1_arrive_54 : decode cX1_arrive 54 = .ok (.aload_n 1, 1) := by decide +kernel
theorem dX1_arrive_55 : decode cX1_arrive 55 = .ok (.getfield 50, 3) := by decide +kernel
theorem dX1_arrive_58 : decode cX1_arrive 58 = .ok (.iload_n 3, 1) := by decide +kernel
theorem dX1_arrive_59 : decode cX1_arrive 59 = .ok (.iconst 3, 1) := by decide +kernel
theorem dX1_arrive_60 : decode cX1_arrive 60 = .ok (.iload_n 2, 1) := by decide +kernel
theorem dX1_arrive_61 : decode cX1_arrive 61 = .ok (.invokevirtual 75, 3) := by decide +kernel
theorem dX1_arrive_64 : decode cX1_arrive 64 = .ok (.aload_n 1, 1) := by decide +kernel
theorem dX1_arrive_65 : decode cX1_arrive 65 = .ok (.iload_n 2, 1) := by decide +kernel
theorem dX1_arrive_66 : decode cX1_arrive 66 = .ok (.iconst 1, 1) := by decide +kernel
theorem dX1_arrive_67 : decode cX1_arrive 67 = .ok (.invokevirtual 46, 3) := by decide +kernel
theorem dX1_arrive_70 : decode cX1_arrive 70 = .ok (.return_, 1) := by decide +kernel
theorem dX1_march_0 : decode cX1_march 0 = .ok (.aload_n 1, 1) := by decide +kernel
theorem dX1_march_1 : decode cX1_march 1 = .ok (.iload_n 2, 1) := by decide +kernel
theorem dX1_march_2 : decode cX1_march 2 = .ok (.invokevirtual 92, 3) := by decide +kernel
theorem dX1_march_5 : decode cX1_march 5 = .ok (.istore_n 3, 1) := by decide +kernel
theorem dX1_march_6 : decode cX1_march 6 = .ok (.iload_n 3, 1) := by decide +kernel
theorem dX1_march_7 : decode cX1_march 7 = .ok (.iconst (-1), 1) := by decide +kernel
theorem dX1_march_8 : decode cX1_march 8 = .ok (.if_icmp .ne 4, 3) := by decide +kernel
theorem dX1_march_11 : decode cX1_march 11 = .ok (.return_, 1) := by decide +kernel
theorem dX1_march_12 : decode cX1_march 12 = .ok (.aload_n 1, 1) := by decide +kernel
theorem dX1_march_13 : decode cX1_march 13 = .ok (.getfield 50, 3) := by decide +kernel
theorem dX1_march_16 : decode cX1_march 16 = .ok (.astore 4, 2) := by decide +kernel
theorem dX1_march_18 : decode cX1_march 18 = .ok (.aload_n 1, 1) := by decide +kernel
theorem dX1_march_19 : decode cX1_march 19 = .ok (.getfield 19, 3) := by decide +kernel
theorem dX1_march_22 : decode cX1_march 22 = .ok (.iload_n 3, 1) := by decide +kernel
theorem dX1_march_23 : decode cX1_march 23 = .ok (.iconst 1, 1) := by decide +kernel
theorem dX1_march_24 : decode cX1_march 24 = .ok (.invokevirtual 31, 3) := by decide +kernel
theorem dX1_march_27 : decode cX1_march 27 = .ok (.aload_n 1, 1) := by decide +kernel
theorem dX1_march_28 : decode cX1_march 28 = .ok (.getfield 19, 3) := by decide +kernel
theorem dX1_march_31 : decode cX1_march 31 = .ok (.iload_n 3, 1) := by decide +kernel
theorem dX1_march_32 : decode cX1_march 32 = .ok (.iconst 2, 1) := by decide +kernel
theorem dX1_march_33 : decode cX1_march 33 = .ok (.invokevirtual 31, 3) := by decide +kernel
theorem dX1_march_36 : decode cX1_march 36 = .ok (.invokestatic 63, 3) := by decide +kernel
theorem dX1_march_39 : decode cX1_march 39 = .ok (.istore 5, 2) := by decide +kernel
theorem dX1_march_41 : decode cX1_march 41 = .ok (.aload 4, 2) := by decide +kernel
theorem dX1_march_43 : decode cX1_march 43 = .ok (.iload_n 2, 1) := by decide +kernel
theorem dX1_march_44 : decode cX1_march 44 = .ok (.iconst 0, 1) := by decide +kernel
theorem dX1_march_45 : decode cX1_march 45 = .ok (.invokevirtual 31, 3) := by decide +kernel
theorem dX1_march_48 : decode cX1_march 48 = .ok (.aload 4, 2) := by decide +kernel
theorem dX1_march_50 : decode cX1_march 50 = .ok (.iload_n 2, 1) := by decide +kernel
theorem dX1_march_51 : decode cX1_march 51 = .ok (.iconst 1, 1) := by decide +kernel
theorem dX1_march_52 : decode cX1_march 52 = .ok (.invokevirtual 31, 3) := by decide +kernel
theorem dX1_march_55 : decode cX1_march 55 = .ok (.invokestatic 63, 3) := by decide +kernel
theorem dX1_march_58 : decode cX1_march 58 = .ok (.istore 6, 2) := by decide +kernel
theorem dX1_march_60 : decode cX1_march 60 = .ok (.aload 4, 2) := by decide +kernel
theorem dX1_march_62 : decode cX1_march 62 = .ok (.iload_n 2, 1) := by decide +kernel
theorem dX1_march_63 : decode cX1_march 63 = .ok (.iconst 2, 1) := by decide +kernel
theorem dX1_march_64 : decode cX1_march 64 = .ok (.invokevirtual 31, 3) := by decide +kernel
theorem dX1_march_67 : decode cX1_march 67 = .ok (.istore 7, 2) := by decide +kernel
theorem dX1_march_69 : decode cX1_march 69 = .ok (.iload 6, 2) := by decide +kernel
theorem dX1_march_71 : decode cX1_march 71 = .ok (.iload 5, 2) := by decide +kernel
theorem dX1_march_73 : decode cX1_march 73 = .ok (.if_icmp .eq 65, 3) := by decide +kernel
theorem dX1_march_76 : decode cX1_march 76 = .ok (.iload 7, 2) := by decide +kernel
theorem dX1_march_78 : decode cX1_march 78 = .ok (.ifCond .le 60, 3) := by decide +kernel
theorem dX1_march_81 : decode cX1_march 81 = .ok (.aload_n 1, 1) := by decide +kernel
theorem dX1_march_82 : decode cX1_march 82 = .ok (.getfield 39, 3) := by decide +kernel
theorem dX1_march_85 : decode cX1_march 85 = .ok (.iload 7, 2) := by decide +kernel
theorem dX1_march_87 : decode cX1_march 87 = .ok (.irem, 1) := by decide +kernel
theorem dX1_march_88 : decode cX1_march 88 = .ok (.ifCond .ne 50, 3) := by decide +kernel
theorem dX1_march_91 : decode cX1_march 91 = .ok (.aload_n 0, 1) := by decide +kernel
theorem dX1_march_92 : decode cX1_march 92 = .ok (.getfield 9, 3) := by decide +kernel
theorem dX1_march_95 : decode cX1_march 95 = .ok (.iload 6, 2) := by decide +kernel
theorem dX1_march_97 : decode cX1_march 97 = .ok (.iload 5, 2) := by decide +kernel
theorem dX1_march_99 : decode cX1_march 99 = .ok (.invokevirtual 66, 3) := by decide +kernel
theorem dX1_march_102 : decode cX1_march 102 = .ok (.istore 8, 2) := by decide +kernel
theorem dX1_march_104 : decode cX1_march 104 = .ok (.iload 8, 2) := by decide +kernel
theorem dX1_march_106 : decode cX1_march 106 = .ok (.iconst (-1), 1) := by decide +kernel
theorem dX1_march_107 : decode cX1_march 107 = .ok (.if_icmp .eq 31, 3) := by decide +kernel
theorem dX1_march_110 : decode cX1_march 110 = .ok (.iload 8, 2) := by decide +kernel
theorem dX1_march_112 : decode cX1_march 112 = .ok (.istore 6, 2) := by decide +kernel
theorem dX1_march_114 : decode cX1_march 114 = .ok (.aload 4, 2) := by decide +kernel
theorem dX1_march_116 : decode cX1_march 116 = .ok (.iload_n 2, 1) := by decide +kernel
theorem dX1_march_117 : decode cX1_march 117 = .ok (.iconst 0, 1) := by decide +kernel
theorem dX1_march_118 : decode cX1_march 118 = .ok (.iload 6, 2) := by decide +kernel
theorem dX1_march_120 : decode cX1_march 120 = .ok (.invokestatic 71, 3) := by decide +kernel
theorem dX1_march_123 : decode cX1_march 123 = .ok (.invokevirtual 75, 3) := by decide +kernel
theorem dX1_march_126 : decode cX1_march 126 = .ok (.aload 4, 2) := by decide +kernel
theorem dX1_march_128 : decode cX1_march 128 = .ok (.iload_n 2, 1) := by decide +kernel
theorem dX1_march_129 : decode cX1_march 129 = .ok (.iconst 1, 1) := by decide +kernel
theorem dX1_march_130 : decode cX1_march 130 = .ok (.iload 6, 2) := by decide +kernel
theorem dX1_march_132 : decode cX1_march 132 = .ok (.invokestatic 79, 3) := by decide +kernel
theorem dX1_march_135 : decode cX1_march 135 = .ok (.invokevirtual 75, 3) := by decide +kernel
theorem dX1_march_138 : decode cX1_march 138 = .ok (.iload 6, 2) := by decide +kernel
theorem dX1_march_140 : decode cX1_march 140 = .ok (.iload 5, 2) := by decide +kernel
theorem dX1_march_142 : decode cX1_march 142 = .ok (.if_icmp .ne 9, 3) := by decide +kernel
theorem dX1_march_145 : decode cX1_march 145 = .ok (.aload_n 1, 1) := by decide +kernel
theorem dX1_march_146 : decode cX1_march 146 = .ok (.iload_n 3, 1) := by decide +kernel
theorem dX1_march_147 : decode cX1_march 147 = .ok (.iconst 2, 1) := by decide +kernel
theorem dX1_march_148 : decode cX1_march 148 = .ok (.invokevirtual 46, 3) := by decide +kernel
theorem dX1_march_151 : decode cX1_march 151 = .ok (.return_, 1) := by decide +kernel
theorem dX2_init_0 : decode cX2_init 0 = .ok (.aload_n 0, 1) := by decide +kernel
theorem dX2_init_1 : decode cX2_init 1 = .ok (.invokespecial 3, 3) := by decide +kernel
theorem dX2_init_4 : decode cX2_init 4 = .ok (.aload_n 0, 1) := by decide +kernel
theorem dX2_init_5 : decode cX2_init 5 = .ok (.sipush 144, 3) := by decide +kernel
theorem dX2_init_8 : decode cX2_init 8 = .ok (.newarray .int, 2) := by decide +kernel
theorem dX2_init_10 : decode cX2_init 10 = .ok (.putfield 9, 3) := by decide +kernel
theorem dX2_init_13 : decode cX2_init 13 = .ok (.return_, 1) := by decide +kernel
theorem dX2_from_0 : decode cX2_from 0 = .ok (.iload_n 1, 1) := by decide +kernel
theorem dX2_from_1 : decode cX2_from 1 = .ok (.ifCond .lt 21, 3) := by decide +kernel
theorem dX2_from_4 : decode cX2_from 4 = .ok (.iload_n 1, 1) := by decide +kernel
theorem dX2_from_5 : decode cX2_from 5 = .ok (.aload_n 0, 1) := by decide +kernel
theorem dX2_from_6 : decode cX2_from 6 = .ok (.getfield 9, 3) := by decide +kernel
theorem dX2_from_9 : decode cX2_from 9 = .ok (.arraylength, 1) := by decide +kernel
theorem dX2_from_10 : decode cX2_from 10 = .ok (.if_icmp .ge 12, 3) := by decide +kernel
theorem dX2_from_13 : decode cX2_from 13 = .ok (.aload_n 0, 1) := by decide +kernel
theorem dX2_from_14 : decode cX2_from 14 = .ok (.getfield 9, 3) := by decide +kernel
theorem dX2_from_17 : decode cX2_from 17 = .ok (.iload_n 1, 1) := by decide +kernel
theorem dX2_from_18 : decode cX2_from 18 = .ok (.iaload, 1) := by decide +kernel
theorem dX2_from_19 : decode cX2_from 19 = .ok (.goto 4, 3) := by decide +kernel
theorem dX2_from_22 : decode cX2_from 22 = .ok (.iconst (-1), 1) := by decide +kernel
theorem dX2_from_23 : decode cX2_from 23 = .ok (.ireturn, 1) := by decide +kernel
theorem dX2_set_0 : decode cX2_set 0 = .ok (.iload_n 1, 1) := by decide +kernel
theorem dX2_set_1 : decode cX2_set 1 = .ok (.ifCond .lt 19, 3) := by decide +kernel
theorem dX2_set_4 : decode cX2_set 4 = .ok (.iload_n 1, 1) := by decide +kernel
theorem dX2_set_5 : decode cX2_set 5 = .ok (.aload_n 0, 1) := by decide +kernel
theorem dX2_set_6 : decode cX2_set 6 = .ok (.getfield 9, 3) := by decide +kernel
theorem dX2_set_9 : decode cX2_set 9 = .ok (.arraylength, 1) := by decide +kernel
theorem dX2_set_10 : decode cX2_set 10 = .ok (.if_icmp .ge 10, 3) := by decide +kernel
theorem dX2_set_13 : decode cX2_set 13 = .ok (.aload_n 0, 1) := by decide +kernel
theorem dX2_set_14 : decode cX2_set 14 = .ok (.getfield 9, 3) := by decide +kernel
theorem dX2_set_17 : decode cX2_set 17 = .ok (.iload_n 1, 1) := by decide +kernel
theorem dX2_set_18 : decode cX2_set 18 = .ok (.iload_n 2, 1) := by decide +kernel
theorem dX2_set_19 : decode cX2_set 19 = .ok (.iastore, 1) := by decide +kernel
theorem dX2_set_20 : decode cX2_set 20 = .ok (.return_, 1) := by decide +kernel
theorem dX3_init_0 : decode cX3_init 0 = .ok (.aload_n 0, 1) := by decide +kernel
theorem dX3_init_1 : decode cX3_init 1 = .ok (.invokespecial 3, 3) := by decide +kernel
theorem dX3_init_4 : decode cX3_init 4 = .ok (.aload_n 0, 1) := by decide +kernel
theorem dX3_init_5 : decode cX3_init 5 = .ok (.bipush 10, 2) := by decide +kernel
theorem dX3_init_7 : decode cX3_init 7 = .ok (.anewarray 9, 3) := by decide +kernel
theorem dX3_init_10 : decode cX3_init 10 = .ok (.putfield 11, 3) := by decide +kernel
theorem dX3_init_13 : decode cX3_init 13 = .ok (.return_, 1) := by decide +kernel
theorem dX3_count_0 : decode cX3_count 0 = .ok (.aload_n 0, 1) := by decide +kernel
theorem dX3_count_1 : decode cX3_count 1 = .ok (.getfield 17, 3) := by decide +kernel
theorem dX3_count_4 : decode cX3_count 4 = .ok (.ireturn, 1) := by decide +kernel
theorem dX3_clear_0 : decode cX3_clear 0 = .ok (.aload_n 0, 1) := by decide +kernel
theorem dX3_clear_1 : decode cX3_clear 1 = .ok (.iconst 0, 1) := by decide +kernel
theorem dX3_clear_2 : decode cX3_clear 2 = .ok (.putfield 21, 3) := by decide +kernel
theorem dX3_clear_5 : decode cX3_clear 5 = .ok (.aload_n 0, 1) := by decide +kernel
theorem dX3_clear_6 : decode cX3_clear 6 = .ok (.iconst 0, 1) := by decide +kernel
theorem dX3_clear_7 : decode cX3_clear 7 = .ok (.putfield 17, 3) := by decide +kernel
theorem dX3_clear_10 : decode cX3_clear 10 = .ok (.return_, 1) := by decide +kernel
theorem dX3_remember_0 : decode cX3_remember 0 = .ok (.aload_n 0, 1) := by decide +kernel
theorem dX3_remember_1 : decode cX3_remember 1 = .ok (.getfield 17, 3) := by decide +kernel
theorem dX3_remember_4 : decode cX3_remember 4 = .ok (.bipush 10, 2) := by decide +kernel
theorem dX3_remember_6 : decode cX3_remember 6 = .ok (.if_icmp .lt 22, 3) := by decide +kernel
theorem dX3_remember_9 : decode cX3_remember 9 = .ok (.aload_n 0, 1) := by decide +kernel
theorem dX3_remember_10 : decode cX3_remember 10 = .ok (.aload_n 0, 1) := by decide +kernel
theorem dX3_remember_11 : decode cX3_remember 11 = .ok (.getfield 21, 3) := by decide +kernel
theorem dX3_remember_14 : decode cX3_remember 14 = .ok (.iconst 1, 1) := by decide +kernel
theorem dX3_remember_15 : decode cX3_remember 15 = .ok (.iadd, 1) := by decide +kernel
theorem dX3_remember_16 : decode cX3_remember 16 = .ok (.bipush 10, 2) := by decide +kernel
theorem dX3_remember_18 : decode cX3_remember 18 = .ok (.irem, 1) := by decide +kernel
theorem dX3_remember_19 : decode cX3_remember 19 = .ok (.putfield 21, 3) := by decide +kernel
theorem dX3_remember_22 : decode cX3_remember 22 = .ok (.aload_n 0, 1) := by decide +kernel
theorem dX3_remember_23 : decode cX3_remember 23 = .ok (.bipush 9, 2) := by decide +kernel
theorem dX3_remember_25 : decode cX3_remember 25 = .ok (.putfield 17, 3) := by decide +kernel
theorem dX3_remember_28 : decode cX3_remember 28 = .ok (.aload_n 0, 1) := by decide +kernel
theorem dX3_remember_29 : decode cX3_remember 29 = .ok (.getfield 21, 3) := by decide +kernel
theorem dX3_remember_32 : decode cX3_remember 32 = .ok (.aload_n 0, 1) := by decide +kernel
theorem dX3_remember_33 : decode cX3_remember 33 = .ok (.getfield 17, 3) := by decide +kernel
theorem dX3_remember_36 : decode cX3_remember 36 = .ok (.iadd, 1) := by decide +kernel
theorem dX3_remember_37 : decode cX3_remember 37 = .ok (.bipush 10, 2) := by decide +kernel
theorem dX3_remember_39 : decode cX3_remember 39 = .ok (.irem, 1) := by decide +kernel
theorem dX3_remember_40 : decode cX3_remember 40 = .ok (.istore_n 2, 1) := by decide +kernel
theorem dX3_remember_41 : decode cX3_remember 41 = .ok (.iload_n 2, 1) := by decide +kernel
theorem dX3_remember_42 : decode cX3_remember 42 = .ok (.ifCond .lt 12, 3) := by decide +kernel
theorem dX3_remember_45 : decode cX3_remember 45 = .ok (.iload_n 2, 1) := by decide +kernel
theorem dX3_remember_46 : decode cX3_remember 46 = .ok (.aload_n 0, 1) := by decide +kernel
theorem dX3_remember_47 : decode cX3_remember 47 = .ok (.getfield 11, 3) := by decide +kernel
theorem dX3_remember_50 : decode cX3_remember 50 = .ok (.arraylength, 1) := by decide +kernel
theorem dX3_remember_51 : decode cX3_remember 51 = .ok (.if_icmp .lt 4, 3) := by decide +kernel
theorem dX3_remember_54 : decode cX3_remember 54 = .ok (.return_, 1) := by decide +kernel
theorem dX3_remember_55 : decode cX3_remember 55 = .ok (.aload_n 0, 1) := by decide +kernel
theorem dX3_remember_56 : decode cX3_remember 56 = .ok (.getfield 11, 3) := by decide +kernel
theorem dX3_remember_59 : decode cX3_remember 59 = .ok (.iload_n 2, 1) := by decide +kernel
theorem dX3_remember_60 : decode cX3_remember 60 = .ok (.aaload, 1) := by decide +kernel
theorem dX3_remember_61 : decode cX3_remember 61 = .ok (.ifnonnull 16, 3) := by decide +kernel
theorem dX3_remember_64 : decode cX3_remember 64 = .ok (.aload_n 0, 1) := by decide +kernel
theorem dX3_remember_65 : decode cX3_remember 65 = .ok (.getfield 11, 3) := by decide +kernel
theorem dX3_remember_68 : decode cX3_remember 68 = .ok (.iload_n 2, 1) := by decide +kernel
theorem dX3_remember_69 : decode cX3_remember 69 = .ok (.new 9, 3) := by decide +kernel
theorem dX3_remember_72 : decode cX3_remember 72 = .ok (.dup, 1) := by decide +kernel
theorem dX3_remember_73 : decode cX3_remember 73 = .ok (.invokespecial 24, 3) := by decide +kernel
theorem dX3_remember_76 : decode cX3_remember 76 = .ok (.aastore, 1) := by decide +kernel
theorem dX3_remember_77 : decode cX3_remember 77 = .ok (.aload_n 0, 1) := by decide +kernel
theorem dX3_remember_78 : decode cX3_remember 78 = .ok (.getfield 11, 3) := by decide +kernel
theorem dX3_remember_81 : decode cX3_remember 81 = .ok (.iload_n 2, 1) := by decide +kernel
theorem dX3_remember_82 : decode cX3_remember 82 = .ok (.aaload, 1) := by decide +kernel
theorem dX3_remember_83 : decode cX3_remember 83 = .ok (.aload_n 1, 1) := by decide +kernel
theorem dX3_remember_84 : decode cX3_remember 84 = .ok (.invokevirtual 25, 3) := by decide +kernel
theorem dX3_remember_87 : decode cX3_remember 87 = .ok (.aload_n 0, 1) := by decide +kernel
theorem dX3_remember_88 : decode cX3_remember 88 = .ok (.dup, 1) := by decide +kernel
theorem dX3_remember_89 : decode cX3_remember 89 = .ok (.getfield 17, 3) := by decide +kernel
theorem dX3_remember_92 : decode cX3_remember 92 = .ok (.iconst 1, 1) := by decide +kernel
theorem dX3_remember_93 : decode cX3_remember 93 = .ok (.iadd, 1) := by decide +kernel
theorem dX3_remember_94 : decode cX3_remember 94 = .ok (.putfield 17, 3) := by decide +kernel
theorem dX3_remember_97 : decode cX3_remember 97 = .ok (.return_, 1) := by decide +kernel
theorem dX3_bringBack_0 : decode cX3_bringBack 0 = .ok (.aload_n 0, 1) := by decide +kernel
theorem dX3_bringBack_1 : decode cX3_bringBack 1 = .ok (.getfield 17, 3) := by decide +kernel
theorem dX3_bringBack_4 : decode cX3_bringBack 4 = .ok (.ifCond .gt 5, 3) := by decide +kernel
theorem dX3_bringBack_7 : decode cX3_bringBack 7 = .ok (.iconst 0, 1) := by decide +kernel
theorem dX3_bringBack_8 : decode cX3_bringBack 8 = .ok (.ireturn, 1) := by decide +kernel
theorem dX3_bringBack_9 : decode cX3_bringBack 9 = .ok (.aload_n 0, 1) := by decide +kernel
theorem dX3_bringBack_10 : decode cX3_bringBack 10 = .ok (.getfield 21, 3) := by decide +kernel
theorem dX3_bringBack_13 : decode cX3_bringBack 13 = .ok (.aload_n 0, 1) := by decide +kernel
theorem dX3_bringBack_14 : decode cX3_bringBack 14 = .ok (.getfield 17, 3) := by decide +kernel
theorem dX3_bringBack_17 : decode cX3_bringBack 17 = .ok (.iadd, 1) := by decide +kernel
theorem dX3_bringBack_18 : decode cX3_bringBack 18 = .ok (.iconst 1, 1) := by decide +kernel
theorem dX3_bringBack_19 : decode cX3_bringBack 19 = .ok (.isub, 1) := by decide +kernel
theorem dX3_bringBack_20 : decode cX3_bringBack 20 = .ok (.bipush 10, 2) := by decide +kernel
theorem dX3_bringBack_22 : decode cX3_bringBack 22 = .ok (.irem, 1) := by decide +kernel
theorem dX3_bringBack_23 : decode cX3_bringBack 23 = .ok (.istore_n 2, 1) := by decide +kernel
theorem dX3_bringBack_24 : decode cX3_bringBack 24 = .ok (.iload_n 2, 1) := by decide +kernel
theorem dX3_bringBack_25 : decode cX3_bringBack 25 = .ok (.ifCond .lt 21, 3) := by decide +kernel
theorem dX3_bringBack_28 : decode cX3_bringBack 28 = .ok (.iload_n 2, 1) := by decide +kernel
theorem dX3_bringBack_29 : decode cX3_bringBack 29 = .ok (.aload_n 0, 1) := by decide +kernel
theorem dX3_bringBack_30 : decode cX3_bringBack 30 = .ok (.getfield 11, 3) := by decide +kernel
theorem dX3_bringBack_33 : decode cX3_bringBack 33 = .ok (.arraylength, 1) := by decide +kernel
theorem dX3_bringBack_34 : decode cX3_bringBack 34 = .ok (.if_icmp .ge 12, 3) := by decide +kernel
theorem dX3_bringBack_37 : decode cX3_bringBack 37 = .ok (.aload_n 0, 1) := by decide +kernel
theorem dX3_bringBack_38 : decode cX3_bringBack 38 = .ok (.getfield 11, 3) := by decide +kernel
theorem dX3_bringBack_41 : decode cX3_bringBack 41 = .ok (.iload_n 2, 1) := by decide +kernel
theorem dX3_bringBack_42 : decode cX3_bringBack 42 = .ok (.aaload, 1) := by decide +kernel
theorem dX3_bringBack_43 : decode cX3_bringBack 43 = .ok (.ifnonnull 5, 3) := by decide +kernel
theorem dX3_bringBack_46 : decode cX3_bringBack 46 = .ok (.iconst 0, 1) := by decide +kernel
theorem dX3_bringBack_47 : decode cX3_bringBack 47 = .ok (.ireturn, 1) := by decide +kernel
theorem dX3_bringBack_48 : decode cX3_bringBack 48 = .ok (.aload_n 1, 1) := by decide +kernel
theorem dX3_bringBack_49 : decode cX3_bringBack 49 = .ok (.aload_n 0, 1) := by decide +kernel
theorem dX3_bringBack_50 : decode cX3_bringBack 50 = .ok (.getfield 11, 3) := by decide +kernel
theorem dX3_bringBack_53 : decode cX3_bringBack 53 = .ok (.iload_n 2, 1) := by decide +kernel
theorem dX3_bringBack_54 : decode cX3_bringBack 54 = .ok (.aaload, 1) := by decide +kernel
theorem dX3_bringBack_55 : decode cX3_bringBack 55 = .ok (.invokevirtual 25, 3) := by decide +kernel
theorem dX3_bringBack_58 : decode cX3_bringBack 58 = .ok (.aload_n 0, 1) := by decide +kernel
theorem dX3_bringBack_59 : decode cX3_bringBack 59 = .ok (.dup, 1) := by decide +kernel
theorem dX3_bringBack_60 : decode cX3_bringBack 60 = .ok (.getfield 17, 3) := by decide +kernel
theorem dX3_bringBack_63 : decode cX3_bringBack 63 = .ok (.iconst 1, 1) := by decide +kernel
theorem dX3_bringBack_64 : decode cX3_bringBack 64 = .ok (.isub, 1) := by decide +kernel
theorem dX3_bringBack_65 : decode cX3_bringBack 65 = .ok (.putfield 17, 3) := by decide +kernel
theorem dX3_bringBack_68 : decode cX3_bringBack 68 = .ok (.iconst 1, 1) := by decide +kernel
theorem dX3_bringBack_69 : decode cX3_bringBack 69 = .ok (.ireturn, 1) := by decide +kernel
theorem dX4_init_0 : decode cX4_init 0 = .ok (.aload_n 0, 1) := by decide +kernel
theorem dX4_init_1 : decode cX4_init 1 = .ok (.invokespecial 3, 3) := by decide +kernel
theorem dX4_init_4 : decode cX4_init 4 = .ok (.aload_n 0, 1) := by decide +kernel
theorem dX4_init_5 : decode cX4_init 5 = .ok (.sipush 144, 3) := by decide +kernel
theorem dX4_init_8 : decode cX4_init 8 = .ok (.anewarray 9, 3) := by decide +kernel
theorem dX4_init_11 : decode cX4_init 11 = .ok (.putfield 11, 3) := by decide +kernel
theorem dX4_init_14 : decode cX4_init 14 = .ok (.aload_n 0, 1) := by decide +kernel
theorem dX4_init_15 : decode cX4_init 15 = .ok (.sipush 144, 3) := by decide +kernel
theorem dX4_init_18 : decode cX4_init 18 = .ok (.newarray .int, 2) := by decide +kernel
theorem dX4_init_20 : decode cX4_init 20 = .ok (.putfield 17, 3) := by decide +kernel
theorem dX4_init_23 : decode cX4_init 23 = .ok (.aload_n 0, 1) := by decide +kernel
theorem dX4_init_24 : decode cX4_init 24 = .ok (.aload_n 1, 1) := by decide +kernel
theorem dX4_init_25 : decode cX4_init 25 = .ok (.putfield 21, 3) := by decide +kernel
theorem dX4_init_28 : decode cX4_init 28 = .ok (.return_, 1) := by decide +kernel
theorem dX4_forget_0 : decode cX4_forget 0 = .ok (.iconst 0, 1) := by decide +kernel
theorem dX4_forget_1 : decode cX4_forget 1 = .ok (.istore_n 1, 1) := by decide +kernel
theorem dX4_forget_2 : decode cX4_forget 2 = .ok (.iload_n 1, 1) := by decide +kernel
theorem dX4_forget_3 : decode cX4_forget 3 = .ok (.aload_n 0, 1) := by decide +kernel
theorem dX4_forget_4 : decode cX4_forget 4 = .ok (.getfield 11, 3) := by decide +kernel
theorem dX4_forget_7 : decode cX4_forget 7 = .ok (.arraylength, 1) := by decide +kernel
theorem dX4_forget_8 : decode cX4_forget 8 = .ok (.if_icmp .ge 28, 3) := by decide +kernel
theorem dX4_forget_11 : decode cX4_forget 11 = .ok (.aload_n 0, 1) := by decide +kernel
theorem dX4_forget_12 : decode cX4_forget 12 = .ok (.getfield 11, 3) := by decide +kernel
theorem dX4_forget_15 : decode cX4_forget 15 = .ok (.iload_n 1, 1) := by decide +kernel
theorem dX4_forget_16 : decode cX4_forget 16 = .ok (.aaload, 1) := by decide +kernel
theorem dX4_forget_17 : decode cX4_forget 17 = .ok (.ifnull 13, 3) := by decide +kernel
theorem dX4_forget_20 : decode cX4_forget 20 = .ok (.aload_n 0, 1) := by decide +kernel
theorem dX4_forget_21 : decode cX4_forget 21 = .ok (.getfield 11, 3) := by decide +kernel
theorem dX4_forget_24 : decode cX4_forget 24 = .ok (.iload_n 1, 1) := by decide +kernel
theorem dX4_forget_25 : decode cX4_forget 25 = .ok (.aaload, 1) := by decide +kernel
theorem dX4_forget_26 : decode cX4_forget 26 = .ok (.iconst 0, 1) := by decide +kernel
theorem dX4_forget_27 : decode cX4_forget 27 = .ok (.putfield 25, 3) := by decide +kernel
theorem dX4_forget_30 : decode cX4_forget 30 = .ok (.iinc 1 1, 3) := by decide +kernel
theorem dX4_forget_33 : decode cX4_forget 33 = .ok (.goto (-31), 3) := by decide +kernel
theorem dX4_forget_36 : decode cX4_forget 36 = .ok (.return_, 1) := by decide +kernel
theorem dX4_between_0 : decode cX4_between 0 = .ok (.aload_n 0, 1) := by decide +kernel
theorem dX4_between_1 : decode cX4_between 1 = .ok (.iload_n 2, 1) := by decide +kernel
theorem dX4_between_2 : decode cX4_between 2 = .ok (.invokevirtual 29, 3) := by decide +kernel
theorem dX4_between_5 : decode cX4_between 5 = .ok (.astore_n 3, 1) := by decide +kernel
theorem dX4_between_6 : decode cX4_between 6 = .ok (.aload_n 3, 1) := by decide +kernel
theorem dX4_between_7 : decode cX4_between 7 = .ok (.ifnonnull 7, 3) := by decide +kernel
theorem dX4_between_10 : decode cX4_between 10 = .ok (.iconst (-1), 1) := by decide +kernel
theorem dX4_between_11 : decode cX4_between 11 = .ok (.goto 8, 3) := by decide +kernel
theorem dX4_between_14 : decode cX4_between 14 = .ok (.aload_n 3, 1) := by decide +kernel
theorem dX4_between_15 : decode cX4_between 15 = .ok (.iload_n 1, 1) := by decide +kernel
theorem dX4_between_16 : decode cX4_between 16 = .ok (.invokevirtual 33, 3) := by decide +kernel
theorem dX4_between_19 : decode cX4_between 19 = .ok (.ireturn, 1) := by decide +kernel
theorem dX4_nextCell_0 : decode cX4_nextCell 0 = .ok (.aload_n 0, 1) := by decide +kernel
theorem dX4_nextCell_1 : decode cX4_nextCell 1 = .ok (.iload_n 2, 1) := by decide +kernel
theorem dX4_nextCell_2 : decode cX4_nextCell 2 = .ok (.invokevirtual 29, 3) := by decide +kernel
theorem dX4_nextCell_5 : decode cX4_nextCell 5 = .ok (.astore_n 3, 1) := by decide +kernel
theorem dX4_nextCell_6 : decode cX4_nextCell 6 = .ok (.aload_n 3, 1) := by decide +kernel
theorem dX4_nextCell_7 : decode cX4_nextCell 7 = .ok (.ifnonnull 5, 3) := by decide +kernel
theorem dX4_nextCell_10 : decode cX4_nextCell 10 = .ok (.iconst (-1), 1) := by decide +kernel
theorem dX4_nextCell_11 : decode cX4_nextCell 11 = .ok (.ireturn, 1) := by decide +kernel
theorem dX4_nextCell_12 : decode cX4_nextCell 12 = .ok (.aload_n 3, 1) := by decide +kernel
theorem dX4_nextCell_13 : decode cX4_nextCell 13 = .ok (.iload_n 1, 1) := by decide +kernel
theorem dX4_nextCell_14 : decode cX4_nextCell 14 = .ok (.invokevirtual 33, 3) := by decide +kernel
theorem dX4_nextCell_17 : decode cX4_nextCell 17 = .ok (.istore 4, 2) := by decide +kernel
theorem dX4_nextCell_19 : decode cX4_nextCell 19 = .ok (.iload 4, 2) := by decide +kernel
theorem dX4_nextCell_21 : decode cX4_nextCell 21 = .ok (.ifCond .gt 14, 3) := by decide +kernel
theorem dX4_nextCell_24 : decode cX4_nextCell 24 = .ok (.iload 4, 2) := by decide +kernel
theorem dX4_nextCell_26 : decode cX4_nextCell 26 = .ok (.ifCond .ne 7, 3) := by decide +kernel
theorem dX4_nextCell_29 : decode cX4_nextCell 29 = .ok (.iload_n 1, 1) := by decide +kernel
theorem dX4_nextCell_30 : decode cX4_nextCell 30 = .ok (.goto 4, 3) := by decide +kernel
theorem dX4_nextCell_33 : decode cX4_nextCell 33 = .ok (.iconst (-1), 1) := by decide +kernel
theorem dX4_nextCell_34 : decode cX4_nextCell 34 = .ok (.ireturn, 1) := by decide +kernel
theorem dX4_nextCell_35 : decode cX4_nextCell 35 = .ok (.iconst 0, 1) := by decide +kernel
theorem dX4_nextCell_36 : decode cX4_nextCell 36 = .ok (.istore 5, 2) := by decide +kernel
theorem dX4_nextCell_38 : decode cX4_nextCell 38 = .ok (.iload 5, 2) := by decide +kernel
theorem dX4_nextCell_40 : decode cX4_nextCell 40 = .ok (.iconst 4, 1) := by decide +kernel
theorem dX4_nextCell_41 : decode cX4_nextCell 41 = .ok (.if_icmp .ge 45, 3) := by decide +kernel
theorem dX4_nextCell_44 : decode cX4_nextCell 44 = .ok (.aload_n 0, 1) := by decide +kernel
theorem dX4_nextCell_45 : decode cX4_nextCell 45 = .ok (.getfield 21, 3) := by decide +kernel
theorem dX4_nextCell_48 : decode cX4_nextCell 48 = .ok (.iload_n 1, 1) := by decide +kernel
theorem dX4_nextCell_49 : decode cX4_nextCell 49 = .ok (.iload 5, 2) := by decide +kernel
theorem dX4_nextCell_51 : decode cX4_nextCell 51 = .ok (.invokevirtual 37, 3) := by decide +kernel
theorem dX4_nextCell_54 : decode cX4_nextCell 54 = .ok (.istore 6, 2) := by decide +kernel
theorem dX4_nextCell_56 : decode cX4_nextCell 56 = .ok (.aload_n 3, 1) := by decide +kernel
theorem dX4_nextCell_57 : decode cX4_nextCell 57 = .ok (.iload 6, 2) := by decide +kernel
theorem dX4_nextCell_59 : decode cX4_nextCell 59 = .ok (.invokevirtual 33, 3) := by decide +kernel
theorem dX4_nextCell_62 : decode cX4_nextCell 62 = .ok (.istore 7, 2) := by decide +kernel
theorem dX4_nextCell_64 : decode cX4_nextCell 64 = .ok (.iload 7, 2) := by decide +kernel
theorem dX4_nextCell_66 : decode cX4_nextCell 66 = .ok (.iconst (-1), 1) := by decide +kernel
theorem dX4_nextCell_67 : decode cX4_nextCell 67 = .ok (.if_icmp .eq 13, 3) := by decide +kernel
theorem dX4_nextCell_70 : decode cX4_nextCell 70 = .ok (.iload 7, 2) := by decide +kernel
theorem dX4_nextCell_72 : decode cX4_nextCell 72 = .ok (.iload 4, 2) := by decide +kernel
theorem dX4_nextCell_74 : decode cX4_nextCell 74 = .ok (.if_icmp .ge 6, 3) := by decide +kernel
theorem dX4_nextCell_77 : decode cX4_nextCell 77 = .ok (.iload 6, 2) := by decide +kernel
theorem dX4_nextCell_79 : decode cX4_nextCell 79 = .ok (.ireturn, 1) := by decide +kernel
theorem dX4_nextCell_80 : decode cX4_nextCell 80 = .ok (.iinc 5 1, 3) := by decide +kernel
theorem dX4_nextCell_83 : decode cX4_nextCell 83 = .ok (.goto (-45), 3) := by decide +kernel
theorem dX4_nextCell_86 : decode cX4_nextCell 86 = .ok (.iconst (-1), 1) := by decide +kernel
theorem dX4_nextCell_87 : decode cX4_nextCell 87 = .ok (.ireturn, 1) := by decide +kernel
theorem dX4_toward_0 : decode cX4_toward 0 = .ok (.iload_n 1, 1) := by decide +kernel
theorem dX4_toward_1 : decode cX4_toward 1 = .ok (.ifCond .lt 12, 3) := by decide +kernel
theorem dX4_toward_4 : decode cX4_toward 4 = .ok (.iload_n 1, 1) := by decide +kernel
theorem dX4_toward_5 : decode cX4_toward 5 = .ok (.aload_n 0, 1) := by decide +kernel
theorem dX4_toward_6 : decode cX4_toward 6 = .ok (.getfield 11, 3) := by decide +kernel
theorem dX4_toward_9 : decode cX4_toward 9 = .ok (.arraylength, 1) := by decide +kernel
theorem dX4_toward_10 : decode cX4_toward 10 = .ok (.if_icmp .lt 5, 3) := by decide +kernel
theorem dX4_toward_13 : decode cX4_toward 13 = .ok (.aconst_null, 1) := by decide +kernel
theorem dX4_toward_14 : decode cX4_toward 14 = .ok (.areturn, 1) := by decide +kernel
theorem dX4_toward_15 : decode cX4_toward 15 = .ok (.aload_n 0, 1) := by decide +kernel
theorem dX4_toward_16 : decode cX4_toward 16 = .ok (.getfield 11, 3) := by decide +kernel
theorem dX4_toward_19 : decode cX4_toward 19 = .ok (.iload_n 1, 1) := by decide +kernel
theorem dX4_toward_20 : decode cX4_toward 20 = .ok (.aaload, 1) := by decide +kernel
theorem dX4_toward_21 : decode cX4_toward 21 = .ok (.ifnonnull 16, 3) := by decide +kernel
theorem dX4_toward_24 : decode cX4_toward 24 = .ok (.aload_n 0, 1) := by decide +kernel
theorem dX4_toward_25 : decode cX4_toward 25 = .ok (.getfield 11, 3) := by decide +kernel
theorem dX4_toward_28 : decode cX4_toward 28 = .ok (.iload_n 1, 1) := by decide +kernel
theorem dX4_toward_29 : decode cX4_toward 29 = .ok (.new 9, 3) := by decide +kernel
theorem dX4_toward_32 : decode cX4_toward 32 = .ok (.dup, 1) := by decide +kernel
theorem dX4_toward_33 : decode cX4_toward 33 = .ok (.invokespecial 43, 3) := by decide +kernel
theorem dX4_toward_36 : decode cX4_toward 36 = .ok (.aastore, 1) := by decide +kernel
theorem dX4_toward_37 : decode cX4_toward 37 = .ok (.aload_n 0, 1) := by decide +kernel
theorem dX4_toward_38 : decode cX4_toward 38 = .ok (.getfield 11, 3) := by decide +kernel
theorem dX4_toward_41 : decode cX4_toward 41 = .ok (.iload_n 1, 1) := by decide +kernel
theorem dX4_toward_42 : decode cX4_toward 42 = .ok (.aaload, 1) := by decide +kernel
theorem dX4_toward_43 : decode cX4_toward 43 = .ok (.astore_n 2, 1) := by decide +kernel
theorem dX4_toward_44 : decode cX4_toward 44 = .ok (.aload_n 2, 1) := by decide +kernel
theorem dX4_toward_45 : decode cX4_toward 45 = .ok (.getfield 25, 3) := by decide +kernel
theorem dX4_toward_48 : decode cX4_toward 48 = .ok (.ifCond .eq 5, 3) := by decide +kernel
theorem dX4_toward_51 : decode cX4_toward 51 = .ok (.aload_n 2, 1) := by decide +kernel
theorem dX4_toward_52 : decode cX4_toward 52 = .ok (.areturn, 1) := by decide +kernel
theorem dX4_toward_53 : decode cX4_toward 53 = .ok (.aload_n 2, 1) := by decide +kernel
theorem dX4_toward_54 : decode cX4_toward 54 = .ok (.getfield 44, 3) := by decide +kernel
theorem dX4_toward_57 : decode cX4_toward 57 = .ok (.iconst (-1), 1) := by decide +kernel
theorem dX4_toward_58 : decode cX4_toward 58 = .ok (.invokestatic 47, 3) := by decide +kernel
theorem dX4_toward_61 : decode cX4_toward 61 = .ok (.aload_n 2, 1) := by decide +kernel
theorem dX4_toward_62 : decode cX4_toward 62 = .ok (.iconst 1, 1) := by decide +kernel
theorem dX4_toward_63 : decode cX4_toward 63 = .ok (.putfield 25, 3) := by decide +kernel
theorem dX4_toward_66 : decode cX4_toward 66 = .ok (.iconst 0, 1) := by decide +kernel
theorem dX4_toward_67 : decode cX4_toward 67 = .ok (.istore_n 3, 1) := by decide +kernel
theorem dX4_toward_68 : decode cX4_toward 68 = .ok (.aload_n 0, 1) := by decide +kernel
theorem dX4_toward_69 : decode cX4_toward 69 = .ok (.getfield 21, 3) := by decide +kernel
theorem dX4_toward_72 : decode cX4_toward 72 = .ok (.iload_n 1, 1) := by decide +kernel
theorem dX4_toward_73 : decode cX4_toward 73 = .ok (.invokestatic 53, 3) := by decide +kernel
theorem dX4_toward_76 : decode cX4_toward 76 = .ok (.iload_n 1, 1) := by decide +kernel
theorem dX4_toward_77 : decode cX4_toward 77 = .ok (.invokestatic 56, 3) := by decide +kernel
theorem dX4_toward_80 : decode cX4_toward 80 = .ok (.invokevirtual 59, 3) := by decide +kernel
theorem dX4_toward_83 : decode cX4_toward 83 = .ok (.ifCond .ne 18, 3) := by decide +kernel
theorem dX4_toward_86 : decode cX4_toward 86 = .ok (.aload_n 2, 1) := by decide +kernel
theorem dX4_toward_87 : decode cX4_toward 87 = .ok (.iload_n 1, 1) := by decide +kernel
theorem dX4_toward_88 : decode cX4_toward 88 = .ok (.iconst 0, 1) := by decide +kernel
theorem dX4_toward_89 : decode cX4_toward 89 = .ok (.invokevirtual 63, 3) := by decide +kernel
theorem dX4_toward_92 : decode cX4_toward 92 = .ok (.aload_n 0, 1) := by decide +kernel
theorem dX4_toward_93 : decode cX4_toward 93 = .ok (.getfield 17, 3) := by decide +kernel
theorem dX4_toward_96 : decode cX4_toward 96 = .ok (.iconst 0, 1) := by decide +kernel
theorem dX4_toward_97 : decode cX4_toward 97 = .ok (.iload_n 1, 1) := by decide +kernel
theorem dX4_toward_98 : decode cX4_toward 98 = .ok (.iastore, 1) := by decide +kernel
theorem dX4_toward_99 : decode cX4_toward 99 = .ok (.iconst 1, 1) := by decide +kernel
theorem dX4_toward_100 : decode cX4_toward 100 = .ok (.istore_n 3, 1) := by decide +kernel
theorem dX4_toward_101 : decode cX4_toward 101 = .ok (.iconst 0, 1) := by decide +kernel
theorem dX4_toward_102 : decode cX4_toward 102 = .ok (.istore 4, 2) := by decide +kernel
theorem dX4_toward_104 : decode cX4_toward 104 = .ok (.iload 4, 2) := by decide +kernel
theorem dX4_toward_106 : decode cX4_toward 106 = .ok (.iload_n 3, 1) := by decide +kernel
theorem dX4_toward_107 : decode cX4_toward 107 = .ok (.if_icmp .ge 106, 3) := by decide +kernel
theorem dX4_toward_110 : decode cX4_toward 110 = .ok (.iload 4, 2) := by decide +kernel
theorem dX4_toward_112 : decode cX4_toward 112 = .ok (.aload_n 0, 1) := by decide +kernel
theorem dX4_toward_113 : decode cX4_toward 113 = .ok (.getfield 17, 3) := by decide +kernel
theorem dX4_toward_116 : decode cX4_toward 116 = .ok (.arraylength, 1) := by decide +kernel
theorem dX4_toward_117 : decode cX4_toward 117 = .ok (.if_icmp .ge 96, 3) := by decide +kernel
theorem dX4_toward_120 : decode cX4_toward 120 = .ok (.aload_n 0, 1) := by decide +kernel
theorem dX4_toward_121 : decode cX4_toward 121 = .ok (.getfield 17, 3) := by decide +kernel
theorem dX4_toward_124 : decode cX4_toward 124 = .ok (.iload 4, 2) := by decide +kernel
theorem dX4_toward_126 : decode cX4_toward 126 = .ok (.iaload, 1) := by decide +kernel
theorem dX4_toward_127 : decode cX4_toward 127 = .ok (.istore 5, 2) := by decide +kernel
theorem dX4_toward_129 : decode cX4_toward 129 = .ok (.iconst 0, 1) := by decide +kernel
theorem dX4_toward_130 : decode cX4_toward 130 = .ok (.istore 6, 2) := by decide +kernel
theorem dX4_toward_132 : decode cX4_toward 132 = .ok (.iload 6, 2) := by decide +kernel
theorem dX4_toward_134 : decode cX4_toward 134 = .ok (.iconst 4, 1) := by decide +kernel
theorem dX4_toward_135 : decode cX4_toward 135 = .ok (.if_icmp .ge 72, 3) := by decide +kernel
theorem dX4_toward_138 : decode cX4_toward 138 = .ok (.aload_n 0, 1) := by decide +kernel
theorem dX4_toward_139 : decode cX4_toward 139 = .ok (.getfield 21, 3) := by decide +kernel
theorem dX4_toward_142 : decode cX4_toward 142 = .ok (.iload 5, 2) := by decide +kernel
theorem dX4_toward_144 : decode cX4_toward 144 = .ok (.iload 6, 2) := by decide +kernel
theorem dX4_toward_146 : decode cX4_toward 146 = .ok (.invokevirtual 37, 3) := by decide +kernel
theorem dX4_toward_149 : decode cX4_toward 149 = .ok (.istore 7, 2) := by decide +kernel
theorem dX4_toward_151 : decode cX4_toward 151 = .ok (.iload 7, 2) := by decide +kernel
theorem dX4_toward_153 : decode cX4_toward 153 = .ok (.iconst (-1), 1) := by decide +kernel
theorem dX4_toward_154 : decode cX4_toward 154 = .ok (.if_icmp .eq 47, 3) := by decide +kernel
theorem dX4_toward_157 : decode cX4_toward 157 = .ok (.aload_n 2, 1) := by decide +kernel
theorem dX4_toward_158 : decode cX4_toward 158 = .ok (.iload 7, 2) := by decide +kernel
theorem dX4_toward_160 : decode cX4_toward 160 = .ok (.invokevirtual 33, 3) := by decide +kernel
theorem dX4_toward_163 : decode cX4_toward 163 = .ok (.iconst (-1), 1) := by decide +kernel
theorem dX4_toward_164 : decode cX4_toward 164 = .ok (.if_icmp .ne 37, 3) := by decide +kernel
theorem dX4_toward_167 : decode cX4_toward 167 = .ok (.iload_n 3, 1) := by decide +kernel
theorem dX4_toward_168 : decode cX4_toward 168 = .ok (.aload_n 0, 1) := by decide +kernel
theorem dX4_toward_169 : decode cX4_toward 169 = .ok (.getfield 17, 3) := by decide +kernel
theorem dX4_toward_172 : decode cX4_toward 172 = .ok (.arraylength, 1) := by decide +kernel
theorem dX4_toward_173 : decode cX4_toward 173 = .ok (.if_icmp .ge 28, 3) := by decide +kernel
theorem dX4_toward_176 : decode cX4_toward 176 = .ok (.aload_n 2, 1) := by decide +kernel
theorem dX4_toward_177 : decode cX4_toward 177 = .ok (.iload 7, 2) := by decide +kernel
theorem dX4_toward_179 : decode cX4_toward 179 = .ok (.aload_n 2, 1) := by decide +kernel
theorem dX4_toward_180 : decode cX4_toward 180 = .ok (.iload 5, 2) := by decide +kernel
theorem dX4_toward_182 : decode cX4_toward 182 = .ok (.invokevirtual 33, 3) := by decide +kernel
theorem dX4_toward_185 : decode cX4_toward 185 = .ok (.iconst 1, 1) := by decide +kernel
theorem dX4_toward_186 : decode cX4_toward 186 = .ok (.iadd, 1) := by decide +kernel
theorem dX4_toward_187 : decode cX4_toward 187 = .ok (.invokevirtual 63, 3) := by decide +kernel
theorem dX4_toward_190 : decode cX4_toward 190 = .ok (.aload_n 0, 1) := by decide +kernel
theorem dX4_toward_191 : decode cX4_toward 191 = .ok (.getfield 17, 3) := by decide +kernel
theorem dX4_toward_194 : decode cX4_toward 194 = .ok (.iload_n 3, 1) := by decide +kernel
theorem dX4_toward_195 : decode cX4_toward 195 = .ok (.iload 7, 2) := by decide +kernel
theorem dX4_toward_197 : decode cX4_toward 197 = .ok (.iastore, 1) := by decide +kernel
theorem dX4_toward_198 : decode cX4_toward 198 = .ok (.iinc 3 1, 3) := by decide +kernel
theorem dX4_toward_201 : decode cX4_toward 201 = .ok (.iinc 6 1, 3) := by decide +kernel
theorem dX4_toward_204 : decode cX4_toward 204 = .ok (.goto (-72), 3) := by decide +kernel
theorem dX4_toward_207 : decode cX4_toward 207 = .ok (.iinc 4 1, 3) := by decide +kernel
theorem dX4_toward_210 : decode cX4_toward 210 = .ok (.goto (-106), 3) := by decide +kernel
theorem dX4_toward_213 : decode cX4_toward 213 = .ok (.aload_n 2, 1) := by decide +kernel
theorem dX4_toward_214 : decode cX4_toward 214 = .ok (.areturn, 1) := by decide +kernel
theorem dX5_init_0 : decode cX5_init 0 = .ok (.aload_n 0, 1) := by decide +kernel
theorem dX5_init_1 : decode cX5_init 1 = .ok (.invokespecial 3, 3) := by decide +kernel
theorem dX5_init_4 : decode cX5_init 4 = .ok (.aload_n 0, 1) := by decide +kernel
theorem dX5_init_5 : decode cX5_init 5 = .ok (.aload_n 1, 1) := by decide +kernel
theorem dX5_init_6 : decode cX5_init 6 = .ok (.putfield 9, 3) := by decide +kernel
theorem dX5_init_9 : decode cX5_init 9 = .ok (.aload_n 0, 1) := by decide +kernel
theorem dX5_init_10 : decode cX5_init 10 = .ok (.aload_n 2, 1) := by decide +kernel
theorem dX5_init_11 : decode cX5_init 11 = .ok (.putfield 15, 3) := by decide +kernel
theorem dX5_init_14 : decode cX5_init 14 = .ok (.return_, 1) := by decide +kernel
theorem dX5_answer_0 : decode cX5_answer 0 = .ok (.aload_n 0, 1) := by decide +kernel
theorem dX5_answer_1 : decode cX5_answer 1 = .ok (.getfield 9, 3) := by decide +kernel
theorem dX5_answer_4 : decode cX5_answer 4 = .ok (.iload_n 1, 1) := by decide +kernel
theorem dX5_answer_5 : decode cX5_answer 5 = .ok (.invokevirtual 19, 3) := by decide +kernel
theorem dX5_answer_8 : decode cX5_answer 8 = .ok (.aload_n 0, 1) := by decide +kernel
theorem dX5_answer_9 : decode cX5_answer 9 = .ok (.getfield 9, 3) := by decide +kernel
theorem dX5_answer_12 : decode cX5_answer 12 = .ok (.invokevirtual 25, 3) := by decide +kernel
theorem dX5_answer_15 : decode cX5_answer 15 = .ok (.aload_n 0, 1) := by decide +kernel
theorem dX5_answer_16 : decode cX5_answer 16 = .ok (.getfield 9, 3) := by decide +kernel
theorem dX5_answer_19 : decode cX5_answer 19 = .ok (.ldc 28, 2) := by decide +kernel
theorem dX5_answer_21 : decode cX5_answer 21 = .ok (.invokevirtual 30, 3) := by decide +kernel
theorem dX5_answer_24 : decode cX5_answer 24 = .ok (.istore_n 2, 1) := by decide +kernel
theorem dX5_answer_25 : decode cX5_answer 25 = .ok (.iload_n 2, 1) := by decide +kernel
theorem dX5_answer_26 : decode cX5_answer 26 = .ok (.ifCond .ne 23, 3) := by decide +kernel
theorem dX5_answer_29 : decode cX5_answer 29 = .ok (.aload_n 0, 1) := by decide +kernel
theorem dX5_answer_30 : decode cX5_answer 30 = .ok (.getfield 9, 3) := by decide +kernel
theorem dX5_answer_33 : decode cX5_answer 33 = .ok (.ldc 34, 2) := by decide +kernel
theorem dX5_answer_35 : decode cX5_answer 35 = .ok (.invokevirtual 30, 3) := by decide +kernel
theorem dX5_answer_38 : decode cX5_answer 38 = .ok (.ifCond .ne 11, 3) := by decide +kernel
theorem dX5_answer_41 : decode cX5_answer 41 = .ok (.aload_n 0, 1) := by decide +kernel
theorem dX5_answer_42 : decode cX5_answer 42 = .ok (.getfield 9, 3) := by decide +kernel
theorem dX5_answer_45 : decode cX5_answer 45 = .ok (.iconst 1, 1) := by decide +kernel
theorem dX5_answer_46 : decode cX5_answer 46 = .ok (.invokevirtual 36, 3) := by decide +kernel
theorem dX5_answer_49 : decode cX5_answer 49 = .ok (.aload_n 0, 1) := by decide +kernel
theorem dX5_answer_50 : decode cX5_answer 50 = .ok (.getfield 9, 3) := by decide +kernel
theorem dX5_answer_53 : decode cX5_answer 53 = .ok (.invokevirtual 25, 3) := by decide +kernel
theorem dX5_answer_56 : decode cX5_answer 56 = .ok (.aload_n 0, 1) := by decide +kernel
theorem dX5_answer_57 : decode cX5_answer 57 = .ok (.iconst 0, 1) := by decide +kernel
theorem dX5_answer_58 : decode cX5_answer 58 = .ok (.invokevirtual 39, 3) := by decide +kernel
theorem dX5_answer_61 : decode cX5_answer 61 = .ok (.lstore_n 3, 1) := by decide +kernel
theorem dX5_answer_62 : decode cX5_answer 62 = .ok (.aload_n 0, 1) := by decide +kernel
theorem dX5_answer_63 : decode cX5_answer 63 = .ok (.getfield 9, 3) := by decide +kernel
theorem dX5_answer_66 : decode cX5_answer 66 = .ok (.invokevirtual 43, 3) := by decide +kernel
theorem dX5_answer_69 : decode cX5_answer 69 = .ok (.ifCond .ne 11, 3) := by decide +kernel
theorem dX5_answer_72 : decode cX5_answer 72 = .ok (.aload_n 0, 1) := by decide +kernel
theorem dX5_answer_73 : decode cX5_answer 73 = .ok (.getfield 9, 3) := by decide +kernel
theorem dX5_answer_76 : decode cX5_answer 76 = .ok (.iconst 1, 1) := by decide +kernel
theorem dX5_answer_77 : decode cX5_answer 77 = .ok (.invokevirtual 36, 3) := by decide +kernel
theorem dX5_answer_80 : decode cX5_answer 80 = .ok (.aload_n 0, 1) := by decide +kernel
theorem dX5_answer_81 : decode cX5_answer 81 = .ok (.getfield 9, 3) := by decide +kernel
theorem dX5_answer_84 : decode cX5_answer 84 = .ok (.invokevirtual 47, 3) := by decide +kernel
theorem dX5_answer_87 : decode cX5_answer 87 = .ok (.ifCond .ne 14, 3) := by decide +kernel
theorem dX5_answer_90 : decode cX5_answer 90 = .ok (.ldc 50, 2) := by decide +kernel
theorem dX5_answer_92 : decode cX5_answer 92 = .ok (.aload_n 0, 1) := by decide +kernel
theorem dX5_answer_93 : decode cX5_answer 93 = .ok (.getfield 9, 3) := by decide +kernel
theorem dX5_answer_96 : decode cX5_answer 96 = .ok (.invokevirtual 51, 3) := by decide +kernel
theorem dX5_answer_99 : decode cX5_answer 99 = .ok (.isub, 1) := by decide +kernel
theorem dX5_answer_100 : decode cX5_answer 100 = .ok (.ireturn, 1) := by decide +kernel
theorem dX5_answer_101 : decode cX5_answer 101 = .ok (.iload_n 2, 1) := by decide +kernel
theorem dX5_answer_102 : decode cX5_answer 102 = .ok (.ifCond .eq 11, 3) := by decide +kernel
theorem dX5_answer_105 : decode cX5_answer 105 = .ok (.aload_n 0, 1) := by decide +kernel
theorem dX5_answer_106 : decode cX5_answer 106 = .ok (.lload_n 3, 1) := by decide +kernel
theorem dX5_answer_107 : decode cX5_answer 107 = .ok (.invokevirtual 55, 3) := by decide +kernel
theorem dX5_answer_110 : decode cX5_answer 110 = .ok (.goto 8, 3) := by decide +kernel
theorem dX5_answer_113 : decode cX5_answer 113 = .ok (.aload_n 0, 1) := by decide +kernel
theorem dX5_answer_114 : decode cX5_answer 114 = .ok (.lload_n 3, 1) := by decide +kernel
theorem dX5_answer_115 : decode cX5_answer 115 = .ok (.invokevirtual 59, 3) := by decide +kernel
theorem dX5_answer_118 : decode cX5_answer 118 = .ok (.ireturn, 1) := by decide +kernel
theorem dX5_countOf_0 : decode cX5_countOf 0 = .ok (.iconst 0, 1) := by decide +kernel
theorem dX5_countOf_1 : decode cX5_countOf 1 = .ok (.istore_n 3, 1) := by decide +kernel
theorem dX5_countOf_2 : decode cX5_countOf 2 = .ok (.aload_n 0, 1) := by decide +kernel
theorem dX5_countOf_3 : decode cX5_countOf 3 = .ok (.getfield 15, 3) := by decide +kernel
theorem dX5_countOf_6 : decode cX5_countOf 6 = .ok (.getfield 62, 3) := by decide +kernel
theorem dX5_countOf_9 : decode cX5_countOf 9 = .ok (.invokevirtual 68, 3) := by decide +kernel
theorem dX5_countOf_12 : decode cX5_countOf 12 = .ok (.istore 4, 2) := by decide +kernel
theorem dX5_countOf_14 : decode cX5_countOf 14 = .ok (.iconst 0, 1) := by decide +kernel
theorem dX5_countOf_15 : decode cX5_countOf 15 = .ok (.istore 5, 2) := by decide +kernel
theorem dX5_countOf_17 : decode cX5_countOf 17 = .ok (.iload 5, 2) := by decide +kernel
theorem dX5_countOf_19 : decode cX5_countOf 19 = .ok (.iload 4, 2) := by decide +kernel
theorem dX5_countOf_21 : decode cX5_countOf 21 = .ok (.if_icmp .ge 19, 3) := by decide +kernel
theorem dX5_countOf_24 : decode cX5_countOf 24 = .ok (.iload_n 3, 1) := by decide +kernel
theorem dX5_countOf_25 : decode cX5_countOf 25 = .ok (.lload_n 1, 1) := by decide +kernel
theorem dX5_countOf_26 : decode cX5_countOf 26 = .ok (.iload 5, 2) := by decide +kernel
theorem dX5_countOf_28 : decode cX5_countOf 28 = .ok (.lshr, 1) := by decide +kernel
theorem dX5_countOf_29 : decode cX5_countOf 29 = .ok (.lconst 1, 1) := by decide +kernel
theorem dX5_countOf_30 : decode cX5_countOf 30 = .ok (.land, 1) := by decide +kernel
theorem dX5_countOf_31 : decode cX5_countOf 31 = .ok (.l2i, 1) := by decide +kernel
theorem dX5_countOf_32 : decode cX5_countOf 32 = .ok (.iadd, 1) := by decide +kernel
theorem dX5_countOf_33 : decode cX5_countOf 33 = .ok (.istore_n 3, 1) := by decide +kernel
theorem dX5_countOf_34 : decode cX5_countOf 34 = .ok (.iinc 5 1, 3) := by decide +kernel
theorem dX5_countOf_37 : decode cX5_countOf 37 = .ok (.goto (-20), 3) := by decide +kernel
theorem dX5_countOf_40 : decode cX5_countOf 40 = .ok (.iload_n 3, 1) := by decide +kernel
theorem dX5_countOf_41 : decode cX5_countOf 41 = .ok (.ireturn, 1) := by decide +kernel
theorem dX5_firstOf_0 : decode cX5_firstOf 0 = .ok (.aload_n 0, 1) := by decide +kernel
theorem dX5_firstOf_1 : decode cX5_firstOf 1 = .ok (.getfield 15, 3) := by decide +kernel
theorem dX5_firstOf_4 : decode cX5_firstOf 4 = .ok (.getfield 62, 3) := by decide +kernel
theorem dX5_firstOf_7 : decode cX5_firstOf 7 = .ok (.invokevirtual 68, 3) := by decide +kernel
theorem dX5_firstOf_10 : decode cX5_firstOf 10 = .ok (.istore_n 3, 1) := by decide +kernel
theorem dX5_firstOf_11 : decode cX5_firstOf 11 = .ok (.iconst 0, 1) := by decide +kernel
theorem dX5_firstOf_12 : decode cX5_firstOf 12 = .ok (.istore 4, 2) := by decide +kernel
theorem dX5_firstOf_14 : decode cX5_firstOf 14 = .ok (.iload 4, 2) := by decide +kernel
theorem dX5_firstOf_16 : decode cX5_firstOf 16 = .ok (.iload_n 3, 1) := by decide +kernel
theorem dX5_firstOf_17 : decode cX5_firstOf 17 = .ok (.if_icmp .ge 23, 3) := by decide +kernel
theorem dX5_firstOf_20 : decode cX5_firstOf 20 = .ok (.lload_n 1, 1) := by decide +kernel
theorem dX5_firstOf_21 : decode cX5_firstOf 21 = .ok (.iload 4, 2) := by decide +kernel
theorem dX5_firstOf_23 : decode cX5_firstOf 23 = .ok (.lshr, 1) := by decide +kernel
theorem dX5_firstOf_24 : decode cX5_firstOf 24 = .ok (.lconst 1, 1) := by decide +kernel
theorem dX5_firstOf_25 : decode cX5_firstOf 25 = .ok (.land, 1) := by decide +kernel
theorem dX5_firstOf_26 : decode cX5_firstOf 26 = .ok (.lconst 0, 1) := by decide +kernel
theorem dX5_firstOf_27 : decode cX5_firstOf 27 = .ok (.lcmp, 1) := by decide +kernel
theorem dX5_firstOf_28 : decode cX5_firstOf 28 = .ok (.ifCond .eq 6, 3) := by decide +kernel
theorem dX5_firstOf_31 : decode cX5_firstOf 31 = .ok (.iload 4, 2) := by decide +kernel
theorem dX5_firstOf_33 : decode cX5_firstOf 33 = .ok (.ireturn, 1) := by decide +kernel
theorem dX5_firstOf_34 : decode cX5_firstOf 34 = .ok (.iinc 4 1, 3) := by decide +kernel
theorem dX5_firstOf_37 : decode cX5_firstOf 37 = .ok (.goto (-23), 3) := by decide +kernel
theorem dX5_firstOf_40 : decode cX5_firstOf 40 = .ok (.iconst (-1), 1) := by decide +kernel
theorem dX5_firstOf_41 : decode cX5_firstOf 41 = .ok (.ireturn, 1) := by decide +kernel
theorem dX5_readTest_0 : decode cX5_readTest 0 = .ok (.aload_n 0, 1) := by decide +kernel
theorem dX5_readTest_1 : decode cX5_readTest 1 = .ok (.iload_n 1, 1) := by decide +kernel
theorem dX5_readTest_2 : decode cX5_readTest 2 = .ok (.invokevirtual 73, 3) := by decide +kernel
theorem dX5_readTest_5 : decode cX5_readTest 5 = .ok (.lstore_n 2, 1) := by decide +kernel
theorem dX5_readTest_6 : decode cX5_readTest 6 = .ok (.iconst 0, 1) := by decide +kernel
theorem dX5_readTest_7 : decode cX5_readTest 7 = .ok (.istore 4, 2) := by decide +kernel
theorem dX5_readTest_9 : decode cX5_readTest 9 = .ok (.iload 4, 2) := by decide +kernel
theorem dX5_readTest_11 : decode cX5_readTest 11 = .ok (.sipush 200, 3) := by decide +kernel
theorem dX5_readTest_14 : decode cX5_readTest 14 = .ok (.if_icmp .ge 46, 3) := by decide +kernel
theorem dX5_readTest_17 : decode cX5_readTest 17 = .ok (.aload_n 0, 1) := by decide +kernel
theorem dX5_readTest_18 : decode cX5_readTest 18 = .ok (.getfield 9, 3) := by decide +kernel
theorem dX5_readTest_21 : decode cX5_readTest 21 = .ok (.invokevirtual 47, 3) := by decide +kernel
theorem dX5_readTest_24 : decode cX5_readTest 24 = .ok (.ifCond .eq 36, 3) := by decide +kernel
theorem dX5_readTest_27 : decode cX5_readTest 27 = .ok (.aload_n 0, 1) := by decide +kernel
theorem dX5_readTest_28 : decode cX5_readTest 28 = .ok (.getfield 9, 3) := by decide +kernel
theorem dX5_readTest_31 : decode cX5_readTest 31 = .ok (.ldc 76, 2) := by decide +kernel
theorem dX5_readTest_33 : decode cX5_readTest 33 = .ok (.invokevirtual 30, 3) := by decide +kernel
theorem dX5_readTest_36 : decode cX5_readTest 36 = .ok (.ifCond .eq 24, 3) := by decide +kernel
theorem dX5_readTest_39 : decode cX5_readTest 39 = .ok (.aload_n 0, 1) := by decide +kernel
theorem dX5_readTest_40 : decode cX5_readTest 40 = .ok (.getfield 9, 3) := by decide +kernel
theorem dX5_readTest_43 : decode cX5_readTest 43 = .ok (.invokevirtual 25, 3) := by decide +kernel
theorem dX5_readTest_46 : decode cX5_readTest 46 = .ok (.lload_n 2, 1) := by decide +kernel
theorem dX5_readTest_47 : decode cX5_readTest 47 = .ok (.aload_n 0, 1) := by decide +kernel
theorem dX5_readTest_48 : decode cX5_readTest 48 = .ok (.iload_n 1, 1) := by decide +kernel
theorem dX5_readTest_49 : decode cX5_readTest 49 = .ok (.invokevirtual 73, 3) := by decide +kernel
theorem dX5_readTest_52 : decode cX5_readTest 52 = .ok (.lor, 1) := by decide +kernel
theorem dX5_readTest_53 : decode cX5_readTest 53 = .ok (.lstore_n 2, 1) := by decide +kernel
theorem dX5_readTest_54 : decode cX5_readTest 54 = .ok (.iinc 4 1, 3) := by decide +kernel
theorem dX5_readTest_57 : decode cX5_readTest 57 = .ok (.goto (-48), 3) := by decide +kernel
theorem dX5_readTest_60 : decode cX5_readTest 60 = .ok (.lload_n 2, 1) := by decide +kernel
theorem dX5_readTest_61 : decode cX5_readTest 61 = .ok (.lreturn, 1) := by decide +kernel
theorem dX5_readConjunction_0 : decode cX5_readConjunction 0 = .ok (.aload_n 0, 1) := by decide +kernel
theorem dX5_readConjunction_1 : decode cX5_readConjunction 1 = .ok (.iload_n 1, 1) := by decide +kernel
theorem dX5_readConjunction_2 : decode cX5_readConjunction 2 = .ok (.invokevirtual 78, 3) := by decide +kernel
theorem dX5_readConjunction_5 : decode cX5_readConjunction 5 = .ok (.lstore_n 2, 1) := by decide +kernel
theorem dX5_readConjunction_6 : decode cX5_readConjunction 6 = .ok (.iconst 0, 1) := by decide +kernel
theorem dX5_readConjunction_7 : decode cX5_readConjunction 7 = .ok (.istore 4, 2) := by decide +kernel
theorem dX5_readConjunction_9 : decode cX5_readConjunction 9 = .ok (.iload 4, 2) := by decide +kernel
theorem dX5_readConjunction_11 : decode cX5_readConjunction 11 = .ok (.sipush 200, 3) := by decide +kernel
theorem dX5_readConjunction_14 : decode cX5_readConjunction 14 = .ok (.if_icmp .ge 46, 3) := by decide +kernel
theorem dX5_readConjunction_17 : decode cX5_readConjunction 17 = .ok (.aload_n 0, 1) := by decide +kernel
theorem dX5_readConjunction_18 : decode cX5_readConjunction 18 = .ok (.getfield 9, 3) := by decide +kernel
theorem dX5_readConjunction_21 : decode cX5_readConjunction 21 = .ok (.invokevirtual 47, 3) := by decide +kernel
theorem dX5_readConjunction_24 : decode cX5_readConjunction 24 = .ok (.ifCond .eq 36, 3) := by decide +kernel
theorem dX5_readConjunction_27 : decode cX5_readConjunction 27 = .ok (.aload_n 0, 1) := by decide +kernel
theorem dX5_readConjunction_28 : decode cX5_readConjunction 28 = .ok (.getfield 9, 3) := by decide +kernel
theorem dX5_readConjunction_31 : decode cX5_readConjunction 31 = .ok (.ldc 81, 2) := by decide +kernel
theorem dX5_readConjunction_33 : decode cX5_readConjunction 33 = .ok (.invokevirtual 30, 3) := by decide +kernel
theorem dX5_readConjunction_36 : decode cX5_readConjunction 36 = .ok (.ifCond .eq 24, 3) := by decide +kernel
theorem dX5_readConjunction_39 : decode cX5_readConjunction 39 = .ok (.aload_n 0, 1) := by decide +kernel
theorem dX5_readConjunction_40 : decode cX5_readConjunction 40 = .ok (.getfield 9, 3) := by decide +kernel
theorem dX5_readConjunction_43 : decode cX5_readConjunction 43 = .ok (.invokevirtual 25, 3) := by decide +kernel
theorem dX5_readConjunction_46 : decode cX5_readConjunction 46 = .ok (.lload_n 2, 1) := by decide +kernel
theorem dX5_readConjunction_47 : decode cX5_readConjunction 47 = .ok (.aload_n 0, 1) := by decide +kernel
theorem dX5_readConjunction_48 : decode cX5_readConjunction 48 = .ok (.iload_n 1, 1) := by decide +kernel
theorem dX5_readConjunction_49 : decode cX5_readConjunction 49 = .ok (.invokevirtual 78, 3) := by decide +kernel
theorem dX5_readConjunction_52 : decode cX5_readConjunction 52 = .ok (.land, 1) := by decide +kernel
theorem dX5_readConjunction_53 : decode cX5_readConjunction 53 = .ok (.lstore_n 2, 1) := by decide +kernel
theorem dX5_readConjunction_54 : decode cX5_readConjunction 54 = .ok (.iinc 4 1, 3) := by decide +kernel
theorem dX5_readConjunction_57 : decode cX5_readConjunction 57 = .ok (.goto (-48), 3) := by decide +kernel
theorem dX5_readConjunction_60 : decode cX5_readConjunction 60 = .ok (.lload_n 2, 1) := by decide +kernel
theorem dX5_readConjunction_61 : decode cX5_readConjunction 61 = .ok (.lreturn, 1) := by decide +kernel
theorem dX5_readFactor_0 : decode cX5_readFactor 0 = .ok (.aload_n 0, 1) := by decide +kernel
theorem dX5_readFactor_1 : decode cX5_readFactor 1 = .ok (.getfield 9, 3) := by decide +kernel
theorem dX5_readFactor_4 : decode cX5_readFactor 4 = .ok (.invokevirtual 47, 3) := by decide +kernel
theorem dX5_readFactor_7 : decode cX5_readFactor 7 = .ok (.ifCond .ne 5, 3) := by decide +kernel
theorem dX5_readFactor_10 : decode cX5_readFactor 10 = .ok (.lconst 0, 1) := by decide +kernel
theorem dX5_readFactor_11 : decode cX5_readFactor 11 = .ok (.lreturn, 1) := by decide +kernel
theorem dX5_readFactor_12 : decode cX5_readFactor 12 = .ok (.aload_n 0, 1) := by decide +kernel
theorem dX5_readFactor_13 : decode cX5_readFactor 13 = .ok (.getfield 9, 3) := by decide +kernel
theorem dX5_readFactor_16 : decode cX5_readFactor 16 = .ok (.ldc 83, 2) := by decide +kernel
theorem dX5_readFactor_18 : decode cX5_readFactor 18 = .ok (.invokevirtual 30, 3) := by decide +kernel
theorem dX5_readFactor_21 : decode cX5_readFactor 21 = .ok (.ifCond .ne 15, 3) := by decide +kernel
theorem dX5_readFactor_24 : decode cX5_readFactor 24 = .ok (.aload_n 0, 1) := by decide +kernel
theorem dX5_readFactor_25 : decode cX5_readFactor 25 = .ok (.getfield 9, 3) := by decide +kernel
theorem dX5_readFactor_28 : decode cX5_readFactor 28 = .ok (.bipush 40, 2) := by decide +kernel
theorem dX5_readFactor_30 : decode cX5_readFactor 30 = .ok (.invokevirtual 85, 3) := by decide +kernel
theorem dX5_readFactor_33 : decode cX5_readFactor 33 = .ok (.ifCond .eq 9, 3) := by decide +kernel
theorem dX5_readFactor_36 : decode cX5_readFactor 36 = .ok (.aload_n 0, 1) := by decide +kernel
theorem dX5_readFactor_37 : decode cX5_readFactor 37 = .ok (.iload_n 1, 1) := by decide +kernel
theorem dX5_readFactor_38 : decode cX5_readFactor 38 = .ok (.invokevirtual 89, 3) := by decide +kernel
theorem dX5_readFactor_41 : decode cX5_readFactor 41 = .ok (.lreturn, 1) := by decide +kernel
theorem dX5_readFactor_42 : decode cX5_readFactor 42 = .ok (.aload_n 0, 1) := by decide +kernel
theorem dX5_readFactor_43 : decode cX5_readFactor 43 = .ok (.invokevirtual 92, 3) := by decide +kernel
theorem dX5_readFactor_46 : decode cX5_readFactor 46 = .ok (.istore_n 2, 1) := by decide +kernel
theorem dX5_readFactor_47 : decode cX5_readFactor 47 = .ok (.aload_n 0, 1) := by decide +kernel
theorem dX5_readFactor_48 : decode cX5_readFactor 48 = .ok (.getfield 9, 3) := by decide +kernel
theorem dX5_readFactor_51 : decode cX5_readFactor 51 = .ok (.invokevirtual 25, 3) := by decide +kernel
theorem dX5_readFactor_54 : decode cX5_readFactor 54 = .ok (.aload_n 0, 1) := by decide +kernel
theorem dX5_readFactor_55 : decode cX5_readFactor 55 = .ok (.getfield 9, 3) := by decide +kernel
theorem dX5_readFactor_58 : decode cX5_readFactor 58 = .ok (.bipush 60, 2) := by decide +kernel
theorem dX5_readFactor_60 : decode cX5_readFactor 60 = .ok (.invokevirtual 85, 3) := by decide +kernel
theorem dX5_readFactor_63 : decode cX5_readFactor 63 = .ok (.istore_n 3, 1) := by decide +kernel
theorem dX5_readFactor_64 : decode cX5_readFactor 64 = .ok (.aload_n 0, 1) := by decide +kernel
theorem dX5_readFactor_65 : decode cX5_readFactor 65 = .ok (.getfield 9, 3) := by decide +kernel
theorem dX5_readFactor_68 : decode cX5_readFactor 68 = .ok (.bipush 61, 2) := by decide +kernel
theorem dX5_readFactor_70 : decode cX5_readFactor 70 = .ok (.invokevirtual 85, 3) := by decide +kernel
theorem dX5_readFactor_73 : decode cX5_readFactor 73 = .ok (.istore 4, 2) := by decide +kernel
theorem dX5_readFactor_75 : decode cX5_readFactor 75 = .ok (.iload_n 3, 1) := by decide +kernel
theorem dX5_readFactor_76 : decode cX5_readFactor 76 = .ok (.ifCond .ne 28, 3) := by decide +kernel
theorem dX5_readFactor_79 : decode cX5_readFactor 79 = .ok (.iload 4, 2) := by decide +kernel
theorem dX5_readFactor_81 : decode cX5_readFactor 81 = .ok (.ifCond .ne 23, 3) := by decide +kernel
theorem dX5_readFactor_84 : decode cX5_readFactor 84 = .ok (.aload_n 0, 1) := by decide +kernel
theorem dX5_readFactor_85 : decode cX5_readFactor 85 = .ok (.getfield 9, 3) := by decide +kernel
theorem dX5_readFactor_88 : decode cX5_readFactor 88 = .ok (.bipush 62, 2) := by decide +kernel
theorem dX5_readFactor_90 : decode cX5_readFactor 90 = .ok (.invokevirtual 85, 3) := by decide +kernel
theorem dX5_readFactor_93 : decode cX5_readFactor 93 = .ok (.ifCond .ne 11, 3) := by decide +kernel
theorem dX5_readFactor_96 : decode cX5_readFactor 96 = .ok (.aload_n 0, 1) := by decide +kernel
theorem dX5_readFactor_97 : decode cX5_readFactor 97 = .ok (.getfield 9, 3) := by decide +kernel
theorem dX5_readFactor_100 : decode cX5_readFactor 100 = .ok (.iconst 1, 1) := by decide +kernel
theorem dX5_readFactor_101 : decode cX5_readFactor 101 = .ok (.invokevirtual 36, 3) := by decide +kernel
theorem dX5_readFactor_104 : decode cX5_readFactor 104 = .ok (.aload_n 0, 1) := by decide +kernel
theorem dX5_readFactor_105 : decode cX5_readFactor 105 = .ok (.getfield 9, 3) := by decide +kernel
theorem dX5_readFactor_108 : decode cX5_readFactor 108 = .ok (.invokevirtual 25, 3) := by decide +kernel
theorem dX5_readFactor_111 : decode cX5_readFactor 111 = .ok (.aload_n 0, 1) := by decide +kernel
theorem dX5_readFactor_112 : decode cX5_readFactor 112 = .ok (.invokevirtual 92, 3) := by decide +kernel
theorem dX5_readFactor_115 : decode cX5_readFactor 115 = .ok (.istore 5, 2) := by decide +kernel
theorem dX5_readFactor_117 : decode cX5_readFactor 117 = .ok (.aload_n 0, 1) := by decide +kernel
theorem dX5_readFactor_118 : decode cX5_readFactor 118 = .ok (.getfield 9, 3) := by decide +kernel
theorem dX5_readFactor_121 : decode cX5_readFactor 121 = .ok (.invokevirtual 25, 3) := by decide +kernel
theorem dX5_readFactor_124 : decode cX5_readFactor 124 = .ok (.lconst 0, 1) := by decide +kernel
theorem dX5_readFactor_125 : decode cX5_readFactor 125 = .ok (.lstore 6, 2) := by decide +kernel
theorem dX5_readFactor_127 : decode cX5_readFactor 127 = .ok (.aload_n 0, 1) := by decide +kernel
theorem dX5_readFactor_128 : decode cX5_readFactor 128 = .ok (.getfield 15, 3) := by decide +kernel
theorem dX5_readFactor_131 : decode cX5_readFactor 131 = .ok (.getfield 62, 3) := by decide +kernel
theorem dX5_readFactor_134 : decode cX5_readFactor 134 = .ok (.invokevirtual 68, 3) := by decide +kernel
theorem dX5_readFactor_137 : decode cX5_readFactor 137 = .ok (.istore 8, 2) := by decide +kernel
theorem dX5_readFactor_139 : decode cX5_readFactor 139 = .ok (.iconst 0, 1) := by decide +kernel
theorem dX5_readFactor_140 : decode cX5_readFactor 140 = .ok (.istore 9, 2) := by decide +kernel
theorem dX5_readFactor_142 : decode cX5_readFactor 142 = .ok (.iload 9, 2) := by decide +kernel
theorem dX5_readFactor_144 : decode cX5_readFactor 144 = .ok (.iload 8, 2) := by decide +kernel
theorem dX5_readFactor_146 : decode cX5_readFactor 146 = .ok (.if_icmp .ge 68, 3) := by decide +kernel
theorem dX5_readFactor_149 : decode cX5_readFactor 149 = .ok (.aload_n 0, 1) := by decide +kernel
theorem dX5_readFactor_150 : decode cX5_readFactor 150 = .ok (.iload_n 2, 1) := by decide +kernel
theorem dX5_readFactor_151 : decode cX5_readFactor 151 = .ok (.iload 9, 2) := by decide +kernel
theorem dX5_readFactor_153 : decode cX5_readFactor 153 = .ok (.invokevirtual 95, 3) := by decide +kernel
theorem dX5_readFactor_156 : decode cX5_readFactor 156 = .ok (.aload_n 0, 1) := by decide +kernel
theorem dX5_readFactor_157 : decode cX5_readFactor 157 = .ok (.iload 5, 2) := by decide +kernel
theorem dX5_readFactor_159 : decode cX5_readFactor 159 = .ok (.iload 9, 2) := by decide +kernel
theorem dX5_readFactor_161 : decode cX5_readFactor 161 = .ok (.invokevirtual 95, 3) := by decide +kernel
theorem dX5_readFactor_164 : decode cX5_readFactor 164 = .ok (.invokestatic 99, 3) := by decide +kernel
theorem dX5_readFactor_167 : decode cX5_readFactor 167 = .ok (.istore 10, 2) := by decide +kernel
theorem dX5_readFactor_169 : decode cX5_readFactor 169 = .ok (.iload_n 3, 1) := by decide +kernel
theorem dX5_readFactor_170 : decode cX5_readFactor 170 = .ok (.ifCond .eq 11, 3) := by decide +kernel
theorem dX5_readFactor_173 : decode cX5_readFactor 173 = .ok (.iload 10, 2) := by decide +kernel
theorem dX5_readFactor_175 : decode cX5_readFactor 175 = .ok (.ifCond .ge 33, 3) := by decide +kernel
theorem dX5_readFactor_178 : decode cX5_readFactor 178 = .ok (.goto 21, 3) := by decide +kernel
theorem dX5_readFactor_181 : decode cX5_readFactor 181 = .ok (.iload 4, 2) := by decide +kernel
theorem dX5_readFactor_183 : decode cX5_readFactor 183 = .ok (.ifCond .eq 11, 3) := by decide +kernel
theorem dX5_readFactor_186 : decode cX5_readFactor 186 = .ok (.iload 10, 2) := by decide +kernel
theorem dX5_readFactor_188 : decode cX5_readFactor 188 = .ok (.ifCond .ne 20, 3) := by decide +kernel
theorem dX5_readFactor_191 : decode cX5_readFactor 191 = .ok (.goto 8, 3) := by decide +kernel
theorem dX5_readFactor_194 : decode cX5_readFactor 194 = .ok (.iload 10, 2) := by decide +kernel
theorem dX5_readFactor_196 : decode cX5_readFactor 196 = .ok (.ifCond .le 12, 3) := by decide +kernel
theorem dX5_readFactor_199 : decode cX5_readFactor 199 = .ok (.lload 6, 2) := by decide +kernel
theorem dX5_readFactor_201 : decode cX5_readFactor 201 = .ok (.lconst 1, 1) := by decide +kernel
theorem dX5_readFactor_202 : decode cX5_readFactor 202 = .ok (.iload 9, 2) := by decide +kernel
theorem dX5_readFactor_204 : decode cX5_readFactor 204 = .ok (.lshl, 1) := by decide +kernel
theorem dX5_readFactor_205 : decode cX5_readFactor 205 = .ok (.lor, 1) := by decide +kernel
theorem dX5_readFactor_206 : decode cX5_readFactor 206 = .ok (.lstore 6, 2) := by decide +kernel
theorem dX5_readFactor_208 : decode cX5_readFactor 208 = .ok (.iinc 9 1, 3) := by decide +kernel
theorem dX5_readFactor_211 : decode cX5_readFactor 211 = .ok (.goto (-69), 3) := by decide +kernel
theorem dX5_readFactor_214 : decode cX5_readFactor 214 = .ok (.lload 6, 2) := by decide +kernel
theorem dX5_readFactor_216 : decode cX5_readFactor 216 = .ok (.lreturn, 1) := by decide +kernel
theorem dX5_readOpened_0 : decode cX5_readOpened 0 = .ok (.iload_n 1, 1) := by decide +kernel
theorem dX5_readOpened_1 : decode cX5_readOpened 1 = .ok (.bipush 6, 2) := by decide +kernel
theorem dX5_readOpened_3 : decode cX5_readOpened 3 = .ok (.if_icmp .lt 13, 3) := by decide +kernel
theorem dX5_readOpened_6 : decode cX5_readOpened 6 = .ok (.aload_n 0, 1) := by decide +kernel
theorem dX5_readOpened_7 : decode cX5_readOpened 7 = .ok (.getfield 9, 3) := by decide +kernel
theorem dX5_readOpened_10 : decode cX5_readOpened 10 = .ok (.iconst 3, 1) := by decide +kernel
theorem dX5_readOpened_11 : decode cX5_readOpened 11 = .ok (.invokevirtual 36, 3) := by decide +kernel
theorem dX5_readOpened_14 : decode cX5_readOpened 14 = .ok (.lconst 0, 1) := by decide +kernel
theorem dX5_readOpened_15 : decode cX5_readOpened 15 = .ok (.lreturn, 1) := by decide +kernel
theorem dX5_readOpened_16 : decode cX5_readOpened 16 = .ok (.aload_n 0, 1) := by decide +kernel
theorem dX5_readOpened_17 : decode cX5_readOpened 17 = .ok (.getfield 9, 3) := by decide +kernel
theorem dX5_readOpened_20 : decode cX5_readOpened 20 = .ok (.ldc 83, 2) := by decide +kernel
theorem dX5_readOpened_22 : decode cX5_readOpened 22 = .ok (.invokevirtual 30, 3) := by decide +kernel
theorem dX5_readOpened_25 : decode cX5_readOpened 25 = .ok (.istore_n 2, 1) := by decide +kernel
theorem dX5_readOpened_26 : decode cX5_readOpened 26 = .ok (.aload_n 0, 1) := by decide +kernel
theorem dX5_readOpened_27 : decode cX5_readOpened 27 = .ok (.getfield 9, 3) := by decide +kernel
theorem dX5_readOpened_30 : decode cX5_readOpened 30 = .ok (.invokevirtual 25, 3) := by decide +kernel
theorem dX5_readOpened_33 : decode cX5_readOpened 33 = .ok (.iload_n 2, 1) := by decide +kernel
theorem dX5_readOpened_34 : decode cX5_readOpened 34 = .ok (.ifCond .eq 15, 3) := by decide +kernel
theorem dX5_readOpened_37 : decode cX5_readOpened 37 = .ok (.aload_n 0, 1) := by decide +kernel
theorem dX5_readOpened_38 : decode cX5_readOpened 38 = .ok (.iload_n 1, 1) := by decide +kernel
theorem dX5_readOpened_39 : decode cX5_readOpened 39 = .ok (.iconst 1, 1) := by decide +kernel
theorem dX5_readOpened_40 : decode cX5_readOpened 40 = .ok (.iadd, 1) := by decide +kernel
theorem dX5_readOpened_41 : decode cX5_readOpened 41 = .ok (.invokevirtual 78, 3) := by decide +kernel
theorem dX5_readOpened_44 : decode cX5_readOpened 44 = .ok (.ldc2_w 104, 3) := by decide +kernel
theorem dX5_readOpened_47 : decode cX5_readOpened 47 = .ok (.lxor, 1) := by decide +kernel
theorem dX5_readOpened_48 : decode cX5_readOpened 48 = .ok (.lreturn, 1) := by decide +kernel
theorem dX5_readOpened_49 : decode cX5_readOpened 49 = .ok (.aload_n 0, 1) := by decide +kernel
theorem dX5_readOpened_50 : decode cX5_readOpened 50 = .ok (.iload_n 1, 1) := by decide +kernel
theorem dX5_readOpened_51 : decode cX5_readOpened 51 = .ok (.iconst 1, 1) := by decide +kernel
theorem dX5_readOpened_52 : decode cX5_readOpened 52 = .ok (.iadd, 1) := by decide +kernel
theorem dX5_readOpened_53 : decode cX5_readOpened 53 = .ok (.invokevirtual 39, 3) := by decide +kernel
theorem dX5_readOpened_56 : decode cX5_readOpened 56 = .ok (.lstore_n 3, 1) := by decide +kernel
theorem dX5_readOpened_57 : decode cX5_readOpened 57 = .ok (.aload_n 0, 1) := by decide +kernel
theorem dX5_readOpened_58 : decode cX5_readOpened 58 = .ok (.getfield 9, 3) := by decide +kernel
theorem dX5_readOpened_61 : decode cX5_readOpened 61 = .ok (.bipush 41, 2) := by decide +kernel
theorem dX5_readOpened_63 : decode cX5_readOpened 63 = .ok (.invokevirtual 85, 3) := by decide +kernel
theorem dX5_readOpened_66 : decode cX5_readOpened 66 = .ok (.ifCond .ne 11, 3) := by decide +kernel
theorem dX5_readOpened_69 : decode cX5_readOpened 69 = .ok (.aload_n 0, 1) := by decide +kernel
theorem dX5_readOpened_70 : decode cX5_readOpened 70 = .ok (.getfield 9, 3) := by decide +kernel
theorem dX5_readOpened_73 : decode cX5_readOpened 73 = .ok (.iconst 1, 1) := by decide +kernel
theorem dX5_readOpened_74 : decode cX5_readOpened 74 = .ok (.invokevirtual 36, 3) := by decide +kernel
theorem dX5_readOpened_77 : decode cX5_readOpened 77 = .ok (.aload_n 0, 1) := by decide +kernel
theorem dX5_readOpened_78 : decode cX5_readOpened 78 = .ok (.getfield 9, 3) := by decide +kernel
theorem dX5_readOpened_81 : decode cX5_readOpened 81 = .ok (.invokevirtual 25, 3) := by decide +kernel
theorem dX5_readOpened_84 : decode cX5_readOpened 84 = .ok (.lload_n 3, 1) := by decide +kernel
theorem dX5_readOpened_85 : decode cX5_readOpened 85 = .ok (.lreturn, 1) := by decide +kernel
theorem dX5_operandAtHand_0 : decode cX5_operandAtHand 0 = .ok (.aload_n 0, 1) := by decide +kernel
theorem dX5_operandAtHand_1 : decode cX5_operandAtHand 1 = .ok (.getfield 9, 3) := by decide +kernel
theorem dX5_operandAtHand_4 : decode cX5_operandAtHand 4 = .ok (.invokevirtual 106, 3) := by decide +kernel
theorem dX5_operandAtHand_7 : decode cX5_operandAtHand 7 = .ok (.ifCond .eq 32, 3) := by decide +kernel
theorem dX5_operandAtHand_10 : decode cX5_operandAtHand 10 = .ok (.aload_n 0, 1) := by decide +kernel
theorem dX5_operandAtHand_11 : decode cX5_operandAtHand 11 = .ok (.getfield 9, 3) := by decide +kernel
theorem dX5_operandAtHand_14 : decode cX5_operandAtHand 14 = .ok (.invokevirtual 109, 3) := by decide +kernel
theorem dX5_operandAtHand_17 : decode cX5_operandAtHand 17 = .ok (.sipush 10000, 3) := by decide +kernel
theorem dX5_operandAtHand_20 : decode cX5_operandAtHand 20 = .ok (.if_icmp .lt 11, 3) := by decide +kernel
theorem dX5_operandAtHand_23 : decode cX5_operandAtHand 23 = .ok (.aload_n 0, 1) := by decide +kernel
theorem dX5_operandAtHand_24 : decode cX5_operandAtHand 24 = .ok (.getfield 9, 3) := by decide +kernel
theorem dX5_operandAtHand_27 : decode cX5_operandAtHand 27 = .ok (.iconst 2, 1) := by decide +kernel
theorem dX5_operandAtHand_28 : decode cX5_operandAtHand 28 = .ok (.invokevirtual 36, 3) := by decide +kernel
theorem dX5_operandAtHand_31 : decode cX5_operandAtHand 31 = .ok (.aload_n 0, 1) := by decide +kernel
theorem dX5_operandAtHand_32 : decode cX5_operandAtHand 32 = .ok (.getfield 9, 3) := by decide +kernel
theorem dX5_operandAtHand_35 : decode cX5_operandAtHand 35 = .ok (.invokevirtual 109, 3) := by decide +kernel
theorem dX5_operandAtHand_38 : decode cX5_operandAtHand 38 = .ok (.ireturn, 1) := by decide +kernel
theorem dX5_operandAtHand_39 : decode cX5_operandAtHand 39 = .ok (.aload_n 0, 1) := by decide +kernel
theorem dX5_operandAtHand_40 : decode cX5_operandAtHand 40 = .ok (.getfield 9, 3) := by decide +kernel
theorem dX5_operandAtHand_43 : decode cX5_operandAtHand 43 = .ok (.ldc 112, 2) := by decide +kernel
theorem dX5_operandAtHand_45 : decode cX5_operandAtHand 45 = .ok (.invokevirtual 30, 3) := by decide +kernel
theorem dX5_operandAtHand_48 : decode cX5_operandAtHand 48 = .ok (.ifCond .eq 7, 3) := by decide +kernel
theorem dX5_operandAtHand_51 : decode cX5_operandAtHand 51 = .ok (.sipush 10010, 3) := by decide +kernel
theorem dX5_operandAtHand_54 : decode cX5_operandAtHand 54 = .ok (.ireturn, 1) := by decide +kernel
theorem dX5_operandAtHand_55 : decode cX5_operandAtHand 55 = .ok (.aload_n 0, 1) := by decide +kernel
theorem dX5_operandAtHand_56 : decode cX5_operandAtHand 56 = .ok (.getfield 9, 3) := by decide +kernel
theorem dX5_operandAtHand_59 : decode cX5_operandAtHand 59 = .ok (.ldc 114, 2) := by decide +kernel
theorem dX5_operandAtHand_61 : decode cX5_operandAtHand 61 = .ok (.invokevirtual 30, 3) := by decide +kernel
theorem dX5_operandAtHand_64 : decode cX5_operandAtHand 64 = .ok (.ifCond .eq 7, 3) := by decide +kernel
theorem dX5_operandAtHand_67 : decode cX5_operandAtHand 67 = .ok (.sipush 10000, 3) := by decide +kernel
theorem dX5_operandAtHand_70 : decode cX5_operandAtHand 70 = .ok (.ireturn, 1) := by decide +kernel
theorem dX5_operandAtHand_71 : decode cX5_operandAtHand 71 = .ok (.aload_n 0, 1) := by decide +kernel
theorem dX5_operandAtHand_72 : decode cX5_operandAtHand 72 = .ok (.getfield 9, 3) := by decide +kernel
theorem dX5_operandAtHand_75 : decode cX5_operandAtHand 75 = .ok (.ldc 116, 2) := by decide +kernel
theorem dX5_operandAtHand_77 : decode cX5_operandAtHand 77 = .ok (.invokevirtual 30, 3) := by decide +kernel
theorem dX5_operandAtHand_80 : decode cX5_operandAtHand 80 = .ok (.ifCond .eq 7, 3) := by decide +kernel
theorem dX5_operandAtHand_83 : decode cX5_operandAtHand 83 = .ok (.sipush 10003, 3) := by decide +kernel
theorem dX5_operandAtHand_86 : decode cX5_operandAtHand 86 = .ok (.ireturn, 1) := by decide +kernel
theorem dX5_operandAtHand_87 : decode cX5_operandAtHand 87 = .ok (.aload_n 0, 1) := by decide +kernel
theorem dX5_operandAtHand_88 : decode cX5_operandAtHand 88 = .ok (.getfield 9, 3) := by decide +kernel
theorem dX5_operandAtHand_91 : decode cX5_operandAtHand 91 = .ok (.ldc 118, 2) := by decide +kernel
theorem dX5_operandAtHand_93 : decode cX5_operandAtHand 93 = .ok (.invokevirtual 30, 3) := by decide +kernel
theorem dX5_operandAtHand_96 : decode cX5_operandAtHand 96 = .ok (.ifCond .eq 7, 3) := by decide +kernel
theorem dX5_operandAtHand_99 : decode cX5_operandAtHand 99 = .ok (.sipush 10004, 3) := by decide +kernel
theorem dX5_operandAtHand_102 : decode cX5_operandAtHand 102 = .ok (.ireturn, 1) := by decide +kernel
theorem dX5_operandAtHand_103 : decode cX5_operandAtHand 103 = .ok (.aload_n 0, 1) := by decide +kernel
theorem dX5_operandAtHand_104 : decode cX5_operandAtHand 104 = .ok (.getfield 9, 3) := by decide +kernel
theorem dX5_operandAtHand_107 : decode cX5_operandAtHand 107 = .ok (.ldc 120, 2) := by decide +kernel
theorem dX5_operandAtHand_109 : decode cX5_operandAtHand 109 = .ok (.invokevirtual 30, 3) := by decide +kernel
theorem dX5_operandAtHand_112 : decode cX5_operandAtHand 112 = .ok (.ifCond .eq 7, 3) := by decide +kernel
theorem dX5_operandAtHand_115 : decode cX5_operandAtHand 115 = .ok (.sipush 10005, 3) := by decide +kernel
theorem dX5_operandAtHand_118 : decode cX5_operandAtHand 118 = .ok (.ireturn, 1) := by decide +kernel
theorem dX5_operandAtHand_119 : decode cX5_operandAtHand 119 = .ok (.aload_n 0, 1) := by decide +kernel
theorem dX5_operandAtHand_120 : decode cX5_operandAtHand 120 = .ok (.getfield 9, 3) := by decide +kernel
theorem dX5_operandAtHand_123 : decode cX5_operandAtHand 123 = .ok (.ldc 122, 2) := by decide +kernel
theorem dX5_operandAtHand_125 : decode cX5_operandAtHand 125 = .ok (.invokevirtual 30, 3) := by decide +kernel
theorem dX5_operandAtHand_128 : decode cX5_operandAtHand 128 = .ok (.ifCond .eq 7, 3) := by decide +kernel
theorem dX5_operandAtHand_131 : decode cX5_operandAtHand 131 = .ok (.sipush 10006, 3) := by decide +kernel
theorem dX5_operandAtHand_134 : decode cX5_operandAtHand 134 = .ok (.ireturn, 1) := by decide +kernel
theorem dX5_operandAtHand_135 : decode cX5_operandAtHand 135 = .ok (.aload_n 0, 1) := by decide +kernel
theorem dX5_operandAtHand_136 : decode cX5_operandAtHand 136 = .ok (.getfield 9, 3) := by decide +kernel
theorem dX5_operandAtHand_139 : decode cX5_operandAtHand 139 = .ok (.ldc 124, 2) := by decide +kernel
theorem dX5_operandAtHand_141 : decode cX5_operandAtHand 141 = .ok (.invokevirtual 30, 3) := by decide +kernel
theorem dX5_operandAtHand_144 : decode cX5_operandAtHand 144 = .ok (.ifCond .eq 7, 3) := by decide +kernel
theorem dX5_operandAtHand_147 : decode cX5_operandAtHand 147 = .ok (.sipush 10009, 3) := by decide +kernel
theorem dX5_operandAtHand_150 : decode cX5_operandAtHand 150 = .ok (.ireturn, 1) := by decide +kernel
theorem dX5_operandAtHand_151 : decode cX5_operandAtHand 151 = .ok (.aload_n 0, 1) := by decide +kernel
theorem dX5_operandAtHand_152 : decode cX5_operandAtHand 152 = .ok (.getfield 9, 3) := by decide +kernel
theorem dX5_operandAtHand_155 : decode cX5_operandAtHand 155 = .ok (.ldc 126, 2) := by decide +kernel
theorem dX5_operandAtHand_157 : decode cX5_operandAtHand 157 = .ok (.invokevirtual 30, 3) := by decide +kernel
theorem dX5_operandAtHand_160 : decode cX5_operandAtHand 160 = .ok (.ifCond .eq 7, 3) := by decide +kernel
theorem dX5_operandAtHand_163 : decode cX5_operandAtHand 163 = .ok (.sipush 10001, 3) := by decide +kernel
theorem dX5_operandAtHand_166 : decode cX5_operandAtHand 166 = .ok (.ireturn, 1) := by decide +kernel
theorem dX5_operandAtHand_167 : decode cX5_operandAtHand 167 = .ok (.aload_n 0, 1) := by decide +kernel
theorem dX5_operandAtHand_168 : decode cX5_operandAtHand 168 = .ok (.getfield 9, 3) := by decide +kernel
theorem dX5_operandAtHand_171 : decode cX5_operandAtHand 171 = .ok (.ldc 128, 2) := by decide +kernel
theorem dX5_operandAtHand_173 : decode cX5_operandAtHand 173 = .ok (.invokevirtual 30, 3) := by decide +kernel
theorem dX5_operandAtHand_176 : decode cX5_operandAtHand 176 = .ok (.ifCond .ne 11, 3) := by decide +kernel
theorem dX5_operandAtHand_179 : decode cX5_operandAtHand 179 = .ok (.aload_n 0, 1) := by decide +kernel
theorem dX5_operandAtHand_180 : decode cX5_operandAtHand 180 = .ok (.getfield 9, 3) := by decide +kernel
theorem dX5_operandAtHand_183 : decode cX5_operandAtHand 183 = .ok (.iconst 1, 1) := by decide +kernel
theorem dX5_operandAtHand_184 : decode cX5_operandAtHand 184 = .ok (.invokevirtual 36, 3) := by decide +kernel
theorem dX5_operandAtHand_187 : decode cX5_operandAtHand 187 = .ok (.sipush 10002, 3) := by decide +kernel
theorem dX5_operandAtHand_190 : decode cX5_operandAtHand 190 = .ok (.ireturn, 1) := by decide +kernel
theorem dX5_valueOf_0 : decode cX5_valueOf 0 = .ok (.iload_n 1, 1) := by decide +kernel
theorem dX5_valueOf_1 : decode cX5_valueOf 1 = .ok (.sipush 10000, 3) := by decide +kernel
theorem dX5_valueOf_4 : decode cX5_valueOf 4 = .ok (.if_icmp .ge 5, 3) := by decide +kernel
theorem dX5_valueOf_7 : decode cX5_valueOf 7 = .ok (.iload_n 1, 1) := by decide +kernel
theorem dX5_valueOf_8 : decode cX5_valueOf 8 = .ok (.ireturn, 1) := by decide +kernel
theorem dX5_valueOf_9 : decode cX5_valueOf 9 = .ok (.iload_n 1, 1) := by decide +kernel
theorem dX5_valueOf_10 : decode cX5_valueOf 10 = .ok (.sipush 10000, 3) := by decide +kernel
theorem dX5_valueOf_13 : decode cX5_valueOf 13 = .ok (.isub, 1) := by decide +kernel
theorem dX5_valueOf_14 : decode cX5_valueOf 14 = .ok (.istore_n 3, 1) := by decide +kernel
theorem dX5_valueOf_15 : decode cX5_valueOf 15 = .ok (.iload_n 3, 1) := by decide +kernel
theorem dX5_valueOf_16 : decode cX5_valueOf 16 = .ok (.bipush 10, 2) := by decide +kernel
theorem dX5_valueOf_18 : decode cX5_valueOf 18 = .ok (.if_icmp .ne 5, 3) := by decide +kernel
theorem dX5_valueOf_21 : decode cX5_valueOf 21 = .ok (.iload_n 2, 1) := by decide +kernel
theorem dX5_valueOf_22 : decode cX5_valueOf 22 = .ok (.ireturn, 1) := by decide +kernel
theorem dX5_valueOf_23 : decode cX5_valueOf 23 = .ok (.aload_n 0, 1) := by decide +kernel
theorem dX5_valueOf_24 : decode cX5_valueOf 24 = .ok (.getfield 15, 3) := by decide +kernel
theorem dX5_valueOf_27 : decode cX5_valueOf 27 = .ok (.getfield 62, 3) := by decide +kernel
theorem dX5_valueOf_30 : decode cX5_valueOf 30 = .ok (.iload_n 2, 1) := by decide +kernel
theorem dX5_valueOf_31 : decode cX5_valueOf 31 = .ok (.iload_n 3, 1) := by decide +kernel
theorem dX5_valueOf_32 : decode cX5_valueOf 32 = .ok (.invokevirtual 130, 3) := by decide +kernel
theorem dX5_valueOf_35 : decode cX5_valueOf 35 = .ok (.istore 4, 2) := by decide +kernel
theorem dX5_valueOf_37 : decode cX5_valueOf 37 = .ok (.iload_n 3, 1) := by decide +kernel
theorem dX5_valueOf_38 : decode cX5_valueOf 38 = .ok (.iconst 5, 1) := by decide +kernel
theorem dX5_valueOf_39 : decode cX5_valueOf 39 = .ok (.if_icmp .eq 9, 3) := by decide +kernel
theorem dX5_valueOf_42 : decode cX5_valueOf 42 = .ok (.iload_n 3, 1) := by decide +kernel
theorem dX5_valueOf_43 : decode cX5_valueOf 43 = .ok (.bipush 6, 2) := by decide +kernel
theorem dX5_valueOf_45 : decode cX5_valueOf 45 = .ok (.if_icmp .ne 10, 3) := by decide +kernel
theorem dX5_valueOf_48 : decode cX5_valueOf 48 = .ok (.iload 4, 2) := by decide +kernel
theorem dX5_valueOf_50 : decode cX5_valueOf 50 = .ok (.iconst 1, 1) := by decide +kernel
theorem dX5_valueOf_51 : decode cX5_valueOf 51 = .ok (.iadd, 1) := by decide +kernel
theorem dX5_valueOf_52 : decode cX5_valueOf 52 = .ok (.goto 5, 3) := by decide +kernel
theorem dX5_valueOf_55 : decode cX5_valueOf 55 = .ok (.iload 4, 2) := by decide +kernel
theorem dX5_valueOf_57 : decode cX5_valueOf 57 = .ok (.ireturn, 1) := by decide +kernel
theorem dX6_init_0 : decode cX6_init 0 = .ok (.aload_n 0, 1) := by decide +kernel
theorem dX6_init_1 : decode cX6_init 1 = .ok (.invokespecial 3, 3) := by decide +kernel
theorem dX6_init_4 : decode cX6_init 4 = .ok (.aload_n 0, 1) := by decide +kernel
theorem dX6_init_5 : decode cX6_init 5 = .ok (.sipush 144, 3) := by decide +kernel
theorem dX6_init_8 : decode cX6_init 8 = .ok (.newarray .int, 2) := by decide +kernel
theorem dX6_init_10 : decode cX6_init 10 = .ok (.putfield 9, 3) := by decide +kernel
theorem dX6_init_13 : decode cX6_init 13 = .ok (.aload_n 0, 1) := by decide +kernel
theorem dX6_init_14 : decode cX6_init 14 = .ok (.new 15, 3) := by decide +kernel
theorem dX6_init_17 : decode cX6_init 17 = .ok (.dup, 1) := by decide +kernel
theorem dX6_init_18 : decode cX6_init 18 = .ok (.bipush 6, 2) := by decide +kernel
theorem dX6_init_20 : decode cX6_init 20 = .ok (.iconst 4, 1) := by decide +kernel
theorem dX6_init_21 : decode cX6_init 21 = .ok (.invokespecial 17, 3) := by decide +kernel
theorem dX6_init_24 : decode cX6_init 24 = .ok (.putfield 20, 3) := by decide +kernel
theorem dX6_init_27 : decode cX6_init 27 = .ok (.aload_n 0, 1) := by decide +kernel
theorem dX6_init_28 : decode cX6_init 28 = .ok (.new 15, 3) := by decide +kernel
theorem dX6_init_31 : decode cX6_init 31 = .ok (.dup, 1) := by decide +kernel
theorem dX6_init_32 : decode cX6_init 32 = .ok (.iconst 4, 1) := by decide +kernel
theorem dX6_init_33 : decode cX6_init 33 = .ok (.bipush 8, 2) := by decide +kernel
theorem dX6_init_35 : decode cX6_init 35 = .ok (.invokespecial 17, 3) := by decide +kernel
theorem dX6_init_38 : decode cX6_init 38 = .ok (.putfield 24, 3) := by decide +kernel
theorem dX6_init_41 : decode cX6_init 41 = .ok (.aload_n 0, 1) := by decide +kernel
theorem dX6_init_42 : decode cX6_init 42 = .ok (.new 15, 3) := by decide +kernel
theorem dX6_init_45 : decode cX6_init 45 = .ok (.dup, 1) := by decide +kernel
theorem dX6_init_46 : decode cX6_init 46 = .ok (.bipush 20, 2) := by decide +kernel
theorem dX6_init_48 : decode cX6_init 48 = .ok (.iconst 4, 1) := by decide +kernel
theorem dX6_init_49 : decode cX6_init 49 = .ok (.invokespecial 17, 3) := by decide +kernel
theorem dX6_init_52 : decode cX6_init 52 = .ok (.putfield 27, 3) := by decide +kernel
theorem dX6_init_55 : decode cX6_init 55 = .ok (.aload_n 0, 1) := by decide +kernel
theorem dX6_init_56 : decode cX6_init 56 = .ok (.new 15, 3) := by decide +kernel
theorem dX6_init_59 : decode cX6_init 59 = .ok (.dup, 1) := by decide +kernel
theorem dX6_init_60 : decode cX6_init 60 = .ok (.bipush 40, 2) := by decide +kernel
theorem dX6_init_62 : decode cX6_init 62 = .ok (.bipush 10, 2) := by decide +kernel
theorem dX6_init_64 : decode cX6_init 64 = .ok (.invokespecial 17, 3) := by decide +kernel
theorem dX6_init_67 : decode cX6_init 67 = .ok (.putfield 30, 3) := by decide +kernel
theorem dX6_init_70 : decode cX6_init 70 = .ok (.aload_n 0, 1) := by decide +kernel
theorem dX6_init_71 : decode cX6_init 71 = .ok (.new 15, 3) := by decide +kernel
theorem dX6_init_74 : decode cX6_init 74 = .ok (.dup, 1) := by decide +kernel
theorem dX6_init_75 : decode cX6_init 75 = .ok (.bipush 80, 2) := by decide +kernel
theorem dX6_init_77 : decode cX6_init 77 = .ok (.iconst 3, 1) := by decide +kernel
theorem dX6_init_78 : decode cX6_init 78 = .ok (.invokespecial 17, 3) := by decide +kernel
theorem dX6_init_81 : decode cX6_init 81 = .ok (.putfield 33, 3) := by decide +kernel
theorem dX6_init_84 : decode cX6_init 84 = .ok (.aload_n 0, 1) := by decide +kernel
theorem dX6_init_85 : decode cX6_init 85 = .ok (.iconst 3, 1) := by decide +kernel
theorem dX6_init_86 : decode cX6_init 86 = .ok (.putfield 36, 3) := by decide +kernel
theorem dX6_init_89 : decode cX6_init 89 = .ok (.aload_n 0, 1) := by decide +kernel
theorem dX6_init_90 : decode cX6_init 90 = .ok (.iconst 3, 1) := by decide +kernel
theorem dX6_init_91 : decode cX6_init 91 = .ok (.putfield 40, 3) := by decide +kernel
theorem dX6_init_94 : decode cX6_init 94 = .ok (.aload_n 0, 1) := by decide +kernel
theorem dX6_init_95 : decode cX6_init 95 = .ok (.bipush 30, 2) := by decide +kernel
theorem dX6_init_97 : decode cX6_init 97 = .ok (.putfield 43, 3) := by decide +kernel
theorem dX6_init_100 : decode cX6_init 100 = .ok (.return_, 1) := by decide +kernel
theorem dX6_begin_0 : decode cX6_begin 0 = .ok (.aload_n 0, 1) := by decide +kernel
theorem dX6_begin_1 : decode cX6_begin 1 = .ok (.iconst 3, 1) := by decide +kernel
theorem dX6_begin_2 : decode cX6_begin 2 = .ok (.putfield 36, 3) := by decide +kernel
theorem dX6_begin_5 : decode cX6_begin 5 = .ok (.aload_n 0, 1) := by decide +kernel
theorem dX6_begin_6 : decode cX6_begin 6 = .ok (.iconst 3, 1) := by decide +kernel
theorem dX6_begin_7 : decode cX6_begin 7 = .ok (.putfield 40, 3) := by decide +kernel
theorem dX6_begin_10 : decode cX6_begin 10 = .ok (.aload_n 0, 1) := by decide +kernel
theorem dX6_begin_11 : decode cX6_begin 11 = .ok (.iconst 0, 1) := by decide +kernel
theorem dX6_begin_12 : decode cX6_begin 12 = .ok (.putfield 46, 3) := by decide +kernel
theorem dX6_begin_15 : decode cX6_begin 15 = .ok (.aload_n 0, 1) := by decide +kernel
theorem dX6_begin_16 : decode cX6_begin 16 = .ok (.iconst 0, 1) := by decide +kernel
theorem dX6_begin_17 : decode cX6_begin 17 = .ok (.putfield 49, 3) := by decide +kernel
theorem dX6_begin_20 : decode cX6_begin 20 = .ok (.aload_n 0, 1) := by decide +kernel
theorem dX6_begin_21 : decode cX6_begin 21 = .ok (.iconst 0, 1) := by decide +kernel
theorem dX6_begin_22 : decode cX6_begin 22 = .ok (.putfield 52, 3) := by decide +kernel
theorem dX6_begin_25 : decode cX6_begin 25 = .ok (.aload_n 0, 1) := by decide +kernel
theorem dX6_begin_26 : decode cX6_begin 26 = .ok (.bipush 30, 2) := by decide +kernel
theorem dX6_begin_28 : decode cX6_begin 28 = .ok (.putfield 43, 3) := by decide +kernel
theorem dX6_begin_31 : decode cX6_begin 31 = .ok (.aload_n 0, 1) := by decide +kernel
theorem dX6_begin_32 : decode cX6_begin 32 = .ok (.iconst 0, 1) := by decide +kernel
theorem dX6_begin_33 : decode cX6_begin 33 = .ok (.putfield 55, 3) := by decide +kernel
theorem dX6_begin_36 : decode cX6_begin 36 = .ok (.aload_n 0, 1) := by decide +kernel
theorem dX6_begin_37 : decode cX6_begin 37 = .ok (.getfield 9, 3) := by decide +kernel
theorem dX6_begin_40 : decode cX6_begin 40 = .ok (.iconst 0, 1) := by decide +kernel
theorem dX6_begin_41 : decode cX6_begin 41 = .ok (.invokestatic 58, 3) := by decide +kernel
theorem dX6_begin_44 : decode cX6_begin 44 = .ok (.aload_n 0, 1) := by decide +kernel
theorem dX6_begin_45 : decode cX6_begin 45 = .ok (.getfield 20, 3) := by decide +kernel
theorem dX6_begin_48 : decode cX6_begin 48 = .ok (.invokevirtual 64, 3) := by decide +kernel
theorem dX6_begin_51 : decode cX6_begin 51 = .ok (.aload_n 0, 1) := by decide +kernel
theorem dX6_begin_52 : decode cX6_begin 52 = .ok (.getfield 24, 3) := by decide +kernel
theorem dX6_begin_55 : decode cX6_begin 55 = .ok (.invokevirtual 64, 3) := by decide +kernel
theorem dX6_begin_58 : decode cX6_begin 58 = .ok (.aload_n 0, 1) := by decide +kernel
theorem dX6_begin_59 : decode cX6_begin 59 = .ok (.getfield 27, 3) := by decide +kernel
theorem dX6_begin_62 : decode cX6_begin 62 = .ok (.invokevirtual 64, 3) := by decide +kernel
theorem dX6_begin_65 : decode cX6_begin 65 = .ok (.aload_n 0, 1) := by decide +kernel
theorem dX6_begin_66 : decode cX6_begin 66 = .ok (.getfield 30, 3) := by decide +kernel
theorem dX6_begin_69 : decode cX6_begin 69 = .ok (.invokevirtual 64, 3) := by decide +kernel
theorem dX6_begin_72 : decode cX6_begin 72 = .ok (.aload_n 0, 1) := by decide +kernel
theorem dX6_begin_73 : decode cX6_begin 73 = .ok (.getfield 33, 3) := by decide +kernel
theorem dX6_begin_76 : decode cX6_begin 76 = .ok (.invokevirtual 64, 3) := by decide +kernel
theorem dX6_begin_79 : decode cX6_begin 79 = .ok (.return_, 1) := by decide +kernel
theorem dX6_copyFrom_0 : decode cX6_copyFrom 0 = .ok (.aload_n 0, 1) := by decide +kernel
theorem dX6_copyFrom_1 : decode cX6_copyFrom 1 = .ok (.aload_n 1, 1) := by decide +kernel
theorem dX6_copyFrom_2 : decode cX6_copyFrom 2 = .ok (.getfield 36, 3) := by decide +kernel
theorem dX6_copyFrom_5 : decode cX6_copyFrom 5 = .ok (.putfield 36, 3) := by decide +kernel
theorem dX6_copyFrom_8 : decode cX6_copyFrom 8 = .ok (.aload_n 0, 1) := by decide +kernel
theorem dX6_copyFrom_9 : decode cX6_copyFrom 9 = .ok (.aload_n 1, 1) := by decide +kernel
theorem dX6_copyFrom_10 : decode cX6_copyFrom 10 = .ok (.getfield 40, 3) := by decide +kernel
theorem dX6_copyFrom_13 : decode cX6_copyFrom 13 = .ok (.putfield 40, 3) := by decide +kernel
theorem dX6_copyFrom_16 : decode cX6_copyFrom 16 = .ok (.aload_n 0, 1) := by decide +kernel
theorem dX6_copyFrom_17 : decode cX6_copyFrom 17 = .ok (.aload_n 1, 1) := by decide +kernel
theorem dX6_copyFrom_18 : decode cX6_copyFrom 18 = .ok (.getfield 46, 3) := by decide +kernel
theorem dX6_copyFrom_21 : decode cX6_copyFrom 21 = .ok (.putfield 46, 3) := by decide +kernel
theorem dX6_copyFrom_24 : decode cX6_copyFrom 24 = .ok (.aload_n 0, 1) := by decide +kernel
theorem dX6_copyFrom_25 : decode cX6_copyFrom 25 = .ok (.aload_n 1, 1) := by decide +kernel
theorem dX6_copyFrom_26 : decode cX6_copyFrom 26 = .ok (.getfield 49, 3) := by decide +kernel
theorem dX6_copyFrom_29 : decode cX6_copyFrom 29 = .ok (.putfield 49, 3) := by decide +kernel
theorem dX6_copyFrom_32 : decode cX6_copyFrom 32 = .ok (.aload_n 0, 1) := by decide +kernel
theorem dX6_copyFrom_33 : decode cX6_copyFrom 33 = .ok (.aload_n 1, 1) := by decide +kernel
theorem dX6_copyFrom_34 : decode cX6_copyFrom 34 = .ok (.getfield 52, 3) := by decide +kernel
theorem dX6_copyFrom_37 : decode cX6_copyFrom 37 = .ok (.putfield 52, 3) := by decide +kernel
theorem dX6_copyFrom_40 : decode cX6_copyFrom 40 = .ok (.aload_n 0, 1) := by decide +kernel
theorem dX6_copyFrom_41 : decode cX6_copyFrom 41 = .ok (.aload_n 1, 1) := by decide +kernel
theorem dX6_copyFrom_42 : decode cX6_copyFrom 42 = .ok (.getfield 43, 3) := by decide +kernel
theorem dX6_copyFrom_45 : decode cX6_copyFrom 45 = .ok (.putfield 43, 3) := by decide +kernel
theorem dX6_copyFrom_48 : decode cX6_copyFrom 48 = .ok (.aload_n 0, 1) := by decide +kernel
theorem dX6_copyFrom_49 : decode cX6_copyFrom 49 = .ok (.aload_n 1, 1) := by decide +kernel
theorem dX6_copyFrom_50 : decode cX6_copyFrom 50 = .ok (.getfield 55, 3) := by decide +kernel
theorem dX6_copyFrom_53 : decode cX6_copyFrom 53 = .ok (.putfield 55, 3) := by decide +kernel
theorem dX6_copyFrom_56 : decode cX6_copyFrom 56 = .ok (.aload_n 1, 1) := by decide +kernel
theorem dX6_copyFrom_57 : decode cX6_copyFrom 57 = .ok (.getfield 9, 3) := by decide +kernel
theorem dX6_copyFrom_60 : decode cX6_copyFrom 60 = .ok (.iconst 0, 1) := by decide +kernel
theorem dX6_copyFrom_61 : decode cX6_copyFrom 61 = .ok (.aload_n 0, 1) := by decide +kernel
theorem dX6_copyFrom_62 : decode cX6_copyFrom 62 = .ok (.getfield 9, 3) := by decide +kernel
theorem dX6_copyFrom_65 : decode cX6_copyFrom 65 = .ok (.iconst 0, 1) := by decide +kernel
theorem dX6_copyFrom_66 : decode cX6_copyFrom 66 = .ok (.sipush 144, 3) := by decide +kernel
theorem dX6_copyFrom_69 : decode cX6_copyFrom 69 = .ok (.invokestatic 67, 3) := by decide +kernel
theorem dX6_copyFrom_72 : decode cX6_copyFrom 72 = .ok (.aload_n 0, 1) := by decide +kernel
theorem dX6_copyFrom_73 : decode cX6_copyFrom 73 = .ok (.getfield 20, 3) := by decide +kernel
theorem dX6_copyFrom_76 : decode cX6_copyFrom 76 = .ok (.aload_n 1, 1) := by decide +kernel
theorem dX6_copyFrom_77 : decode cX6_copyFrom 77 = .ok (.getfield 20, 3) := by decide +kernel
theorem dX6_copyFrom_80 : decode cX6_copyFrom 80 = .ok (.invokevirtual 73, 3) := by decide +kernel
theorem dX6_copyFrom_83 : decode cX6_copyFrom 83 = .ok (.aload_n 0, 1) := by decide +kernel
theorem dX6_copyFrom_84 : decode cX6_copyFrom 84 = .ok (.getfield 24, 3) := by decide +kernel
theorem dX6_copyFrom_87 : decode cX6_copyFrom 87 = .ok (.aload_n 1, 1) := by decide +kernel
theorem dX6_copyFrom_88 : decode cX6_copyFrom 88 = .ok (.getfield 24, 3) := by decide +kernel
theorem dX6_copyFrom_91 : decode cX6_copyFrom 91 = .ok (.invokevirtual 73, 3) := by decide +kernel
theorem dX6_copyFrom_94 : decode cX6_copyFrom 94 = .ok (.aload_n 0, 1) := by decide +kernel
theorem dX6_copyFrom_95 : decode cX6_copyFrom 95 = .ok (.getfield 27, 3) := by decide +kernel
theorem dX6_copyFrom_98 : decode cX6_copyFrom 98 = .ok (.aload_n 1, 1) := by decide +kernel
theorem dX6_copyFrom_99 : decode cX6_copyFrom 99 = .ok (.getfield 27, 3) := by decide +kernel
theorem dX6_copyFrom_102 : decode cX6_copyFrom 102 = .ok (.invokevirtual 73, 3) := by decide +kernel
theorem dX6_copyFrom_105 : decode cX6_copyFrom 105 = .ok (.aload_n 0, 1) := by decide +kernel
theorem dX6_copyFrom_106 : decode cX6_copyFrom 106 = .ok (.getfield 30, 3) := by decide +kernel
theorem dX6_copyFrom_109 : decode cX6_copyFrom 109 = .ok (.aload_n 1, 1) := by decide +kernel
theorem dX6_copyFrom_110 : decode cX6_copyFrom 110 = .ok (.getfield 30, 3) := by decide +kernel
theorem dX6_copyFrom_113 : decode cX6_copyFrom 113 = .ok (.invokevirtual 73, 3) := by decide +kernel
theorem dX6_copyFrom_116 : decode cX6_copyFrom 116 = .ok (.aload_n 0, 1) := by decide +kernel
theorem dX6_copyFrom_117 : decode cX6_copyFrom 117 = .ok (.getfield 33, 3) := by decide +kernel
theorem dX6_copyFrom_120 : decode cX6_copyFrom 120 = .ok (.aload_n 1, 1) := by decide +kernel
theorem dX6_copyFrom_121 : decode cX6_copyFrom 121 = .ok (.getfield 33, 3) := by decide +kernel
theorem dX6_copyFrom_124 : decode cX6_copyFrom 124 = .ok (.invokevirtual 73, 3) := by decide +kernel
theorem dX6_copyFrom_127 : decode cX6_copyFrom 127 = .ok (.return_, 1) := by decide +kernel
theorem dX6_hasCell_0 : decode cX6_hasCell 0 = .ok (.iload_n 1, 1) := by decide +kernel
theorem dX6_hasCell_1 : decode cX6_hasCell 1 = .ok (.ifCond .lt 27, 3) := by decide +kernel
theorem dX6_hasCell_4 : decode cX6_hasCell 4 = .ok (.iload_n 1, 1) := by decide +kernel
theorem dX6_hasCell_5 : decode cX6_hasCell 5 = .ok (.aload_n 0, 1) := by decide +kernel
theorem dX6_hasCell_6 : decode cX6_hasCell 6 = .ok (.getfield 36, 3) := by decide +kernel
theorem dX6_hasCell_9 : decode cX6_hasCell 9 = .ok (.if_icmp .ge 19, 3) := by decide +kernel
theorem dX6_hasCell_12 : decode cX6_hasCell 12 = .ok (.iload_n 2, 1) := by decide +kernel
theorem dX6_hasCell_13 : decode cX6_hasCell 13 = .ok (.ifCond .lt 15, 3) := by decide +kernel
theorem dX6_hasCell_16 : decode cX6_hasCell 16 = .ok (.iload_n 2, 1) := by decide +kernel
theorem dX6_hasCell_17 : decode cX6_hasCell 17 = .ok (.aload_n 0, 1) := by decide +kernel
theorem dX6_hasCell_18 : decode cX6_hasCell 18 = .ok (.getfield 40, 3) := by decide +kernel
theorem dX6_hasCell_21 : decode cX6_hasCell 21 = .ok (.if_icmp .ge 7, 3) := by decide +kernel
theorem dX6_hasCell_24 : decode cX6_hasCell 24 = .ok (.iconst 1, 1) := by decide +kernel
theorem dX6_hasCell_25 : decode cX6_hasCell 25 = .ok (.goto 4, 3) := by decide +kernel
theorem dX6_hasCell_28 : decode cX6_hasCell 28 = .ok (.iconst 0, 1) := by decide +kernel
theorem dX6_hasCell_29 : decode cX6_hasCell 29 = .ok (.ireturn, 1) := by decide +kernel
theorem dX6_walled_0 : decode cX6_walled 0 = .ok (.bipush 12, 2) := by decide +kernel
theorem dX6_walled_2 : decode cX6_walled 2 = .ok (.iload_n 2, 1) := by decide +kernel
theorem dX6_walled_3 : decode cX6_walled 3 = .ok (.imul, 1) := by decide +kernel
theorem dX6_walled_4 : decode cX6_walled 4 = .ok (.iload_n 1, 1) := by decide +kernel
theorem dX6_walled_5 : decode cX6_walled 5 = .ok (.iadd, 1) := by decide +kernel
theorem dX6_walled_6 : decode cX6_walled 6 = .ok (.istore_n 3, 1) := by decide +kernel
theorem dX6_walled_7 : decode cX6_walled 7 = .ok (.iload_n 3, 1) := by decide +kernel
theorem dX6_walled_8 : decode cX6_walled 8 = .ok (.ifCond .lt 25, 3) := by decide +kernel
theorem dX6_walled_11 : decode cX6_walled 11 = .ok (.iload_n 3, 1) := by decide +kernel
theorem dX6_walled_12 : decode cX6_walled 12 = .ok (.aload_n 0, 1) := by decide +kernel
theorem dX6_walled_13 : decode cX6_walled 13 = .ok (.getfield 9, 3) := by decide +kernel
theorem dX6_walled_16 : decode cX6_walled 16 = .ok (.arraylength, 1) := by decide +kernel
theorem dX6_walled_17 : decode cX6_walled 17 = .ok (.if_icmp .ge 16, 3) := by decide +kernel
theorem dX6_walled_20 : decode cX6_walled 20 = .ok (.aload_n 0, 1) := by decide +kernel
theorem dX6_walled_21 : decode cX6_walled 21 = .ok (.getfield 9, 3) := by decide +kernel
theorem dX6_walled_24 : decode cX6_walled 24 = .ok (.iload_n 3, 1) := by decide +kernel
theorem dX6_walled_25 : decode cX6_walled 25 = .ok (.iaload, 1) := by decide +kernel
theorem dX6_walled_26 : decode cX6_walled 26 = .ok (.ifCond .eq 7, 3) := by decide +kernel
theorem dX6_walled_29 : decode cX6_walled 29 = .ok (.iconst 1, 1) := by decide +kernel
theorem dX6_walled_30 : decode cX6_walled 30 = .ok (.goto 4, 3) := by decide +kernel
theorem dX6_walled_33 : decode cX6_walled 33 = .ok (.iconst 0, 1) := by decide +kernel
theorem dX6_walled_34 : decode cX6_walled 34 = .ok (.ireturn, 1) := by decide +kernel
theorem dX6_turnWall_0 : decode cX6_turnWall 0 = .ok (.iload_n 1, 1) := by decide +kernel
theorem dX6_turnWall_1 : decode cX6_turnWall 1 = .ok (.iload_n 2, 1) := by decide +kernel
theorem dX6_turnWall_2 : decode cX6_turnWall 2 = .ok (.invokestatic 77, 3) := by decide +kernel
theorem dX6_turnWall_5 : decode cX6_turnWall 5 = .ok (.istore_n 3, 1) := by decide +kernel
theorem dX6_turnWall_6 : decode cX6_turnWall 6 = .ok (.iload_n 3, 1) := by decide +kernel
theorem dX6_turnWall_7 : decode cX6_turnWall 7 = .ok (.ifCond .lt 49, 3) := by decide +kernel
theorem dX6_turnWall_10 : decode cX6_turnWall 10 = .ok (.iload_n 3, 1) := by decide +kernel
theorem dX6_turnWall_11 : decode cX6_turnWall 11 = .ok (.aload_n 0, 1) := by decide +kernel
theorem dX6_turnWall_12 : decode cX6_turnWall 12 = .ok (.getfield 9, 3) := by decide +kernel
theorem dX6_turnWall_15 : decode cX6_turnWall 15 = .ok (.arraylength, 1) := by decide +kernel
theorem dX6_turnWall_16 : decode cX6_turnWall 16 = .ok (.if_icmp .ge 40, 3) := by decide +kernel
theorem dX6_turnWall_19 : decode cX6_turnWall 19 = .ok (.aload_n 0, 1) := by decide +kernel
theorem dX6_turnWall_20 : decode cX6_turnWall 20 = .ok (.getfield 9, 3) := by decide +kernel
theorem dX6_turnWall_23 : decode cX6_turnWall 23 = .ok (.iload_n 3, 1) := by decide +kernel
theorem dX6_turnWall_24 : decode cX6_turnWall 24 = .ok (.iconst 1, 1) := by decide +kernel
theorem dX6_turnWall_25 : decode cX6_turnWall 25 = .ok (.aload_n 0, 1) := by decide +kernel
theorem dX6_turnWall_26 : decode cX6_turnWall 26 = .ok (.getfield 9, 3) := by decide +kernel
theorem dX6_turnWall_29 : decode cX6_turnWall 29 = .ok (.iload_n 3, 1) := by decide +kernel
theorem dX6_turnWall_30 : decode cX6_turnWall 30 = .ok (.iaload, 1) := by decide +kernel
theorem dX6_turnWall_31 : decode cX6_turnWall 31 = .ok (.isub, 1) := by decide +kernel
theorem dX6_turnWall_32 : decode cX6_turnWall 32 = .ok (.iastore, 1) := by decide +kernel
theorem dX6_turnWall_33 : decode cX6_turnWall 33 = .ok (.aload_n 0, 1) := by decide +kernel
theorem dX6_turnWall_34 : decode cX6_turnWall 34 = .ok (.dup, 1) := by decide +kernel
theorem dX6_turnWall_35 : decode cX6_turnWall 35 = .ok (.getfield 55, 3) := by decide +kernel
theorem dX6_turnWall_38 : decode cX6_turnWall 38 = .ok (.aload_n 0, 1) := by decide +kernel
theorem dX6_turnWall_39 : decode cX6_turnWall 39 = .ok (.getfield 9, 3) := by decide +kernel
theorem dX6_turnWall_42 : decode cX6_turnWall 42 = .ok (.iload_n 3, 1) := by decide +kernel
theorem dX6_turnWall_43 : decode cX6_turnWall 43 = .ok (.iaload, 1) := by decide +kernel
theorem dX6_turnWall_44 : decode cX6_turnWall 44 = .ok (.ifCond .eq 7, 3) := by decide +kernel
theorem dX6_turnWall_47 : decode cX6_turnWall 47 = .ok (.iconst 1, 1) := by decide +kernel
theorem dX6_turnWall_48 : decode cX6_turnWall 48 = .ok (.goto 4, 3) := by decide +kernel
theorem dX6_turnWall_51 : decode cX6_turnWall 51 = .ok (.iconst (-1), 1) := by decide +kernel
theorem dX6_turnWall_52 : decode cX6_turnWall 52 = .ok (.iadd, 1) := by decide +kernel
theorem dX6_turnWall_53 : decode cX6_turnWall 53 = .ok (.putfield 55, 3) := by decide +kernel
theorem dX6_turnWall_56 : decode cX6_turnWall 56 = .ok (.return_, 1) := by decide +kernel
theorem dX6_freeBeside_0 : decode cX6_freeBeside 0 = .ok (.iload_n 1, 1) := by decide +kernel
theorem dX6_freeBeside_1 : decode cX6_freeBeside 1 = .ok (.bipush 12, 2) := by decide +kernel
theorem dX6_freeBeside_3 : decode cX6_freeBeside 3 = .ok (.irem, 1) := by decide +kernel
theorem dX6_freeBeside_4 : decode cX6_freeBeside 4 = .ok (.iload_n 2, 1) := by decide +kernel
theorem dX6_freeBeside_5 : decode cX6_freeBeside 5 = .ok (.iconst 1, 1) := by decide +kernel
theorem dX6_freeBeside_6 : decode cX6_freeBeside 6 = .ok (.if_icmp .ne 7, 3) := by decide +kernel
theorem dX6_freeBeside_9 : decode cX6_freeBeside 9 = .ok (.iconst 1, 1) := by decide +kernel
theorem dX6_freeBeside_10 : decode cX6_freeBeside 10 = .ok (.goto 13, 3) := by decide +kernel
theorem dX6_freeBeside_13 : decode cX6_freeBeside 13 = .ok (.iload_n 2, 1) := by decide +kernel
theorem dX6_freeBeside_14 : decode cX6_freeBeside 14 = .ok (.iconst 3, 1) := by decide +kernel
theorem dX6_freeBeside_15 : decode cX6_freeBeside 15 = .ok (.if_icmp .ne 7, 3) := by decide +kernel
theorem dX6_freeBeside_18 : decode cX6_freeBeside 18 = .ok (.iconst (-1), 1) := by decide +kernel
theorem dX6_freeBeside_19 : decode cX6_freeBeside 19 = .ok (.goto 4, 3) := by decide +kernel
theorem dX6_freeBeside_22 : decode cX6_freeBeside 22 = .ok (.iconst 0, 1) := by decide +kernel
theorem dX6_freeBeside_23 : decode cX6_freeBeside 23 = .ok (.iadd, 1) := by decide +kernel
theorem dX6_freeBeside_24 : decode cX6_freeBeside 24 = .ok (.istore_n 3, 1) := by decide +kernel
theorem dX6_freeBeside_25 : decode cX6_freeBeside 25 = .ok (.iload_n 1, 1) := by decide +kernel
theorem dX6_freeBeside_26 : decode cX6_freeBeside 26 = .ok (.bipush 12, 2) := by decide +kernel
theorem dX6_freeBeside_28 : decode cX6_freeBeside 28 = .ok (.idiv, 1) := by decide +kernel
theorem dX6_freeBeside_29 : decode cX6_freeBeside 29 = .ok (.iload_n 2, 1) := by decide +kernel
theorem dX6_freeBeside_30 : decode cX6_freeBeside 30 = .ok (.iconst 2, 1) := by decide +kernel
theorem dX6_freeBeside_31 : decode cX6_freeBeside 31 = .ok (.if_icmp .ne 7, 3) := by decide +kernel
theorem dX6_freeBeside_34 : decode cX6_freeBeside 34 = .ok (.iconst 1, 1) := by decide +kernel
theorem dX6_freeBeside_35 : decode cX6_freeBeside 35 = .ok (.goto 12, 3) := by decide +kernel
theorem dX6_freeBeside_38 : decode cX6_freeBeside 38 = .ok (.iload_n 2, 1) := by decide +kernel
theorem dX6_freeBeside_39 : decode cX6_freeBeside 39 = .ok (.ifCond .ne 7, 3) := by decide +kernel
theorem dX6_freeBeside_42 : decode cX6_freeBeside 42 = .ok (.iconst (-1), 1) := by decide +kernel
theorem dX6_freeBeside_43 : decode cX6_freeBeside 43 = .ok (.goto 4, 3) := by decide +kernel
theorem dX6_freeBeside_46 : decode cX6_freeBeside 46 = .ok (.iconst 0, 1) := by decide +kernel
theorem dX6_freeBeside_47 : decode cX6_freeBeside 47 = .ok (.iadd, 1) := by decide +kernel
theorem dX6_freeBeside_48 : decode cX6_freeBeside 48 = .ok (.istore 4, 2) := by decide +kernel
theorem dX6_freeBeside_50 : decode cX6_freeBeside 50 = .ok (.iload_n 3, 1) := by decide +kernel
theorem dX6_freeBeside_51 : decode cX6_freeBeside 51 = .ok (.ifCond .lt 25, 3) := by decide +kernel
theorem dX6_freeBeside_54 : decode cX6_freeBeside 54 = .ok (.iload_n 3, 1) := by decide +kernel
theorem dX6_freeBeside_55 : decode cX6_freeBeside 55 = .ok (.aload_n 0, 1) := by decide +kernel
theorem dX6_freeBeside_56 : decode cX6_freeBeside 56 = .ok (.getfield 36, 3) := by decide +kernel
theorem dX6_freeBeside_59 : decode cX6_freeBeside 59 = .ok (.if_icmp .ge 17, 3) := by decide +kernel
theorem dX6_freeBeside_62 : decode cX6_freeBeside 62 = .ok (.iload 4, 2) := by decide +kernel
theorem dX6_freeBeside_64 : decode cX6_freeBeside 64 = .ok (.ifCond .lt 12, 3) := by decide +kernel
theorem dX6_freeBeside_67 : decode cX6_freeBeside 67 = .ok (.iload 4, 2) := by decide +kernel
theorem dX6_freeBeside_69 : decode cX6_freeBeside 69 = .ok (.aload_n 0, 1) := by decide +kernel
theorem dX6_freeBeside_70 : decode cX6_freeBeside 70 = .ok (.getfield 40, 3) := by decide +kernel
theorem dX6_freeBeside_73 : decode cX6_freeBeside 73 = .ok (.if_icmp .lt 5, 3) := by decide +kernel
theorem dX6_freeBeside_76 : decode cX6_freeBeside 76 = .ok (.iconst (-1), 1) := by decide +kernel
theorem dX6_freeBeside_77 : decode cX6_freeBeside 77 = .ok (.ireturn, 1) := by decide +kernel
theorem dX6_freeBeside_78 : decode cX6_freeBeside 78 = .ok (.bipush 12, 2) := by decide +kernel
theorem dX6_freeBeside_80 : decode cX6_freeBeside 80 = .ok (.iload 4, 2) := by decide +kernel
theorem dX6_freeBeside_82 : decode cX6_freeBeside 82 = .ok (.imul, 1) := by decide +kernel
theorem dX6_freeBeside_83 : decode cX6_freeBeside 83 = .ok (.iload_n 3, 1) := by decide +kernel
theorem dX6_freeBeside_84 : decode cX6_freeBeside 84 = .ok (.iadd, 1) := by decide +kernel
theorem dX6_freeBeside_85 : decode cX6_freeBeside 85 = .ok (.istore 5, 2) := by decide +kernel
theorem dX6_freeBeside_87 : decode cX6_freeBeside 87 = .ok (.iload 5, 2) := by decide +kernel
theorem dX6_freeBeside_89 : decode cX6_freeBeside 89 = .ok (.ifCond .lt 28, 3) := by decide +kernel
theorem dX6_freeBeside_92 : decode cX6_freeBeside 92 = .ok (.iload 5, 2) := by decide +kernel
theorem dX6_freeBeside_94 : decode cX6_freeBeside 94 = .ok (.aload_n 0, 1) := by decide +kernel
theorem dX6_freeBeside_95 : decode cX6_freeBeside 95 = .ok (.getfield 9, 3) := by decide +kernel
theorem dX6_freeBeside_98 : decode cX6_freeBeside 98 = .ok (.arraylength, 1) := by decide +kernel
theorem dX6_freeBeside_99 : decode cX6_freeBeside 99 = .ok (.if_icmp .ge 18, 3) := by decide +kernel
theorem dX6_freeBeside_102 : decode cX6_freeBeside 102 = .ok (.aload_n 0, 1) := by decide +kernel
theorem dX6_freeBeside_103 : decode cX6_freeBeside 103 = .ok (.getfield 9, 3) := by decide +kernel
theorem dX6_freeBeside_106 : decode cX6_freeBeside 106 = .ok (.iload 5, 2) := by decide +kernel
theorem dX6_freeBeside_108 : decode cX6_freeBeside 108 = .ok (.iaload, 1) := by decide +kernel
theorem dX6_freeBeside_109 : decode cX6_freeBeside 109 = .ok (.ifCond .ne 8, 3) := by decide +kernel
theorem dX6_freeBeside_112 : decode cX6_freeBeside 112 = .ok (.iload 5, 2) := by decide +kernel
theorem dX6_freeBeside_114 : decode cX6_freeBeside 114 = .ok (.goto 4, 3) := by decide +kernel
theorem dX6_freeBeside_117 : decode cX6_freeBeside 117 = .ok (.iconst (-1), 1) := by decide +kernel
theorem dX6_freeBeside_118 : decode cX6_freeBeside 118 = .ok (.ireturn, 1) := by decide +kernel
theorem dX6_isHeadquarters_0 : decode cX6_isHeadquarters 0 = .ok (.iload_n 1, 1) := by decide +kernel
theorem dX6_isHeadquarters_1 : decode cX6_isHeadquarters 1 = .ok (.aload_n 0, 1) := by decide +kernel
theorem dX6_isHeadquarters_2 : decode cX6_isHeadquarters 2 = .ok (.getfield 46, 3) := by decide +kernel
theorem dX6_isHeadquarters_5 : decode cX6_isHeadquarters 5 = .ok (.if_icmp .ne 15, 3) := by decide +kernel
theorem dX6_isHeadquarters_8 : decode cX6_isHeadquarters 8 = .ok (.iload_n 2, 1) := by decide +kernel
theorem dX6_isHeadquarters_9 : decode cX6_isHeadquarters 9 = .ok (.aload_n 0, 1) := by decide +kernel
theorem dX6_isHeadquarters_10 : decode cX6_isHeadquarters 10 = .ok (.getfield 49, 3) := by decide +kernel
theorem dX6_isHeadquarters_13 : decode cX6_isHeadquarters 13 = .ok (.if_icmp .ne 7, 3) := by decide +kernel
theorem dX6_isHeadquarters_16 : decode cX6_isHeadquarters 16 = .ok (.iconst 1, 1) := by decide +kernel
theorem dX6_isHeadquarters_17 : decode cX6_isHeadquarters 17 = .ok (.goto 4, 3) := by decide +kernel
theorem dX6_isHeadquarters_20 : decode cX6_isHeadquarters 20 = .ok (.iconst 0, 1) := by decide +kernel
theorem dX6_isHeadquarters_21 : decode cX6_isHeadquarters 21 = .ok (.ireturn, 1) := by decide +kernel
theorem dX6_lowestUnitAt_0 : decode cX6_lowestUnitAt 0 = .ok (.aload_n 0, 1) := by decide +kernel
theorem dX6_lowestUnitAt_1 : decode cX6_lowestUnitAt 1 = .ok (.getfield 20, 3) := by decide +kernel
theorem dX6_lowestUnitAt_4 : decode cX6_lowestUnitAt 4 = .ok (.invokevirtual 81, 3) := by decide +kernel
theorem dX6_lowestUnitAt_7 : decode cX6_lowestUnitAt 7 = .ok (.istore_n 3, 1) := by decide +kernel
theorem dX6_lowestUnitAt_8 : decode cX6_lowestUnitAt 8 = .ok (.iconst 0, 1) := by decide +kernel
theorem dX6_lowestUnitAt_9 : decode cX6_lowestUnitAt 9 = .ok (.istore 4, 2) := by decide +kernel
theorem dX6_lowestUnitAt_11 : decode cX6_lowestUnitAt 11 = .ok (.iload 4, 2) := by decide +kernel
theorem dX6_lowestUnitAt_13 : decode cX6_lowestUnitAt 13 = .ok (.iload_n 3, 1) := by decide +kernel
theorem dX6_lowestUnitAt_14 : decode cX6_lowestUnitAt 14 = .ok (.if_icmp .ge 40, 3) := by decide +kernel
theorem dX6_lowestUnitAt_17 : decode cX6_lowestUnitAt 17 = .ok (.aload_n 0, 1) := by decide +kernel
theorem dX6_lowestUnitAt_18 : decode cX6_lowestUnitAt 18 = .ok (.getfield 20, 3) := by decide +kernel
theorem dX6_lowestUnitAt_21 : decode cX6_lowestUnitAt 21 = .ok (.iload 4, 2) := by decide +kernel
theorem dX6_lowestUnitAt_23 : decode cX6_lowestUnitAt 23 = .ok (.iconst 0, 1) := by decide +kernel
theorem dX6_lowestUnitAt_24 : decode cX6_lowestUnitAt 24 = .ok (.invokevirtual 85, 3) := by decide +kernel
theorem dX6_lowestUnitAt_27 : decode cX6_lowestUnitAt 27 = .ok (.iload_n 1, 1) := by decide +kernel
theorem dX6_lowestUnitAt_28 : decode cX6_lowestUnitAt 28 = .ok (.if_icmp .ne 20, 3) := by decide +kernel
theorem dX6_lowestUnitAt_31 : decode cX6_lowestUnitAt 31 = .ok (.aload_n 0, 1) := by decide +kernel
theorem dX6_lowestUnitAt_32 : decode cX6_lowestUnitAt 32 = .ok (.getfield 20, 3) := by decide +kernel
theorem dX6_lowestUnitAt_35 : decode cX6_lowestUnitAt 35 = .ok (.iload 4, 2) := by decide +kernel
theorem dX6_lowestUnitAt_37 : decode cX6_lowestUnitAt 37 = .ok (.iconst 1, 1) := by decide +kernel
theorem dX6_lowestUnitAt_38 : decode cX6_lowestUnitAt 38 = .ok (.invokevirtual 85, 3) := by decide +kernel
theorem dX6_lowestUnitAt_41 : decode cX6_lowestUnitAt 41 = .ok (.iload_n 2, 1) := by decide +kernel
theorem dX6_lowestUnitAt_42 : decode cX6_lowestUnitAt 42 = .ok (.if_icmp .ne 6, 3) := by decide +kernel
theorem dX6_lowestUnitAt_45 : decode cX6_lowestUnitAt 45 = .ok (.iload 4, 2) := by decide +kernel
theorem dX6_lowestUnitAt_47 : decode cX6_lowestUnitAt 47 = .ok (.ireturn, 1) := by decide +kernel
theorem dX6_lowestUnitAt_48 : decode cX6_lowestUnitAt 48 = .ok (.iinc 4 1, 3) := by decide +kernel
theorem dX6_lowestUnitAt_51 : decode cX6_lowestUnitAt 51 = .ok (.goto (-40), 3) := by decide +kernel
theorem dX6_lowestUnitAt_54 : decode cX6_lowestUnitAt 54 = .ok (.iconst (-1), 1) := by decide +kernel
theorem dX6_lowestUnitAt_55 : decode cX6_lowestUnitAt 55 = .ok (.ireturn, 1) := by decide +kernel
theorem dX6_hasMessengerAt_0 : decode cX6_hasMessengerAt 0 = .ok (.aload_n 0, 1) := by decide +kernel
theorem dX6_hasMessengerAt_1 : decode cX6_hasMessengerAt 1 = .ok (.getfield 30, 3) := by decide +kernel
theorem dX6_hasMessengerAt_4 : decode cX6_hasMessengerAt 4 = .ok (.invokevirtual 81, 3) := by decide +kernel
theorem dX6_hasMessengerAt_7 : decode cX6_hasMessengerAt 7 = .ok (.istore_n 3, 1) := by decide +kernel
theorem dX6_hasMessengerAt_8 : decode cX6_hasMessengerAt 8 = .ok (.iconst 0, 1) := by decide +kernel
theorem dX6_hasMessengerAt_9 : decode cX6_hasMessengerAt 9 = .ok (.istore 4, 2) := by decide +kernel
theorem dX6_hasMessengerAt_11 : decode cX6_hasMessengerAt 11 = .ok (.iload 4, 2) := by decide +kernel
theorem dX6_hasMessengerAt_13 : decode cX6_hasMessengerAt 13 = .ok (.iload_n 3, 1) := by decide +kernel
theorem dX6_hasMessengerAt_14 : decode cX6_hasMessengerAt 14 = .ok (.if_icmp .ge 54, 3) := by decide +kernel
theorem dX6_hasMessengerAt_17 : decode cX6_hasMessengerAt 17 = .ok (.aload_n 0, 1) := by decide +kernel
theorem dX6_hasMessengerAt_18 : decode cX6_hasMessengerAt 18 = .ok (.getfield 30, 3) := by decide +kernel
theorem dX6_hasMessengerAt_21 : decode cX6_hasMessengerAt 21 = .ok (.iload 4, 2) := by decide +kernel
theorem dX6_hasMessengerAt_23 : decode cX6_hasMessengerAt 23 = .ok (.iconst 3, 1) := by decide +kernel
theorem dX6_hasMessengerAt_24 : decode cX6_hasMessengerAt 24 = .ok (.invokevirtual 85, 3) := by decide +kernel
theorem dX6_hasMessengerAt_27 : decode cX6_hasMessengerAt 27 = .ok (.ifCond .ne 35, 3) := by decide +kernel
theorem dX6_hasMessengerAt_30 : decode cX6_hasMessengerAt 30 = .ok (.aload_n 0, 1) := by decide +kernel
theorem dX6_hasMessengerAt_31 : decode cX6_hasMessengerAt 31 = .ok (.getfield 30, 3) := by decide +kernel
theorem dX6_hasMessengerAt_34 : decode cX6_hasMessengerAt 34 = .ok (.iload 4, 2) := by decide +kernel
theorem dX6_hasMessengerAt_36 : decode cX6_hasMessengerAt 36 = .ok (.bipush 7, 2) := by decide +kernel
theorem dX6_hasMessengerAt_38 : decode cX6_hasMessengerAt 38 = .ok (.invokevirtual 85, 3) := by decide +kernel
theorem dX6_hasMessengerAt_41 : decode cX6_hasMessengerAt 41 = .ok (.iload_n 1, 1) := by decide +kernel
theorem dX6_hasMessengerAt_42 : decode cX6_hasMessengerAt 42 = .ok (.if_icmp .ne 20, 3) := by decide +kernel
theorem dX6_hasMessengerAt_45 : decode cX6_hasMessengerAt 45 = .ok (.aload_n 0, 1) := by decide +kernel
theorem dX6_hasMessengerAt_46 : decode cX6_hasMessengerAt 46 = .ok (.getfield 30, 3) := by decide +kernel
theorem dX6_hasMessengerAt_49 : decode cX6_hasMessengerAt 49 = .ok (.iload 4, 2) := by decide +kernel
theorem dX6_hasMessengerAt_51 : decode cX6_hasMessengerAt 51 = .ok (.bipush 8, 2) := by decide +kernel
theorem dX6_hasMessengerAt_53 : decode cX6_hasMessengerAt 53 = .ok (.invokevirtual 85, 3) := by decide +kernel
theorem dX6_hasMessengerAt_56 : decode cX6_hasMessengerAt 56 = .ok (.iload_n 2, 1) := by decide +kernel
theorem dX6_hasMessengerAt_57 : decode cX6_hasMessengerAt 57 = .ok (.if_icmp .ne 5, 3) := by decide +kernel
theorem dX6_hasMessengerAt_60 : decode cX6_hasMessengerAt 60 = .ok (.iconst 1, 1) := by decide +kernel
theorem dX6_hasMessengerAt_61 : decode cX6_hasMessengerAt 61 = .ok (.ireturn, 1) := by decide +kernel
theorem dX6_hasMessengerAt_62 : decode cX6_hasMessengerAt 62 = .ok (.iinc 4 1, 3) := by decide +kernel
theorem dX6_hasMessengerAt_65 : decode cX6_hasMessengerAt 65 = .ok (.goto (-54), 3) := by decide +kernel
theorem dX6_hasMessengerAt_68 : decode cX6_hasMessengerAt 68 = .ok (.iconst 0, 1) := by decide +kernel
theorem dX6_hasMessengerAt_69 : decode cX6_hasMessengerAt 69 = .ok (.ireturn, 1) := by decide +kernel
theorem dX6_isGoal_0 : decode cX6_isGoal 0 = .ok (.aload_n 0, 1) := by decide +kernel
theorem dX6_isGoal_1 : decode cX6_isGoal 1 = .ok (.getfield 30, 3) := by decide +kernel
theorem dX6_isGoal_4 : decode cX6_isGoal 4 = .ok (.invokevirtual 81, 3) := by decide +kernel
theorem dX6_isGoal_7 : decode cX6_isGoal 7 = .ok (.istore_n 3, 1) := by decide +kernel
theorem dX6_isGoal_8 : decode cX6_isGoal 8 = .ok (.iconst 0, 1) := by decide +kernel
theorem dX6_isGoal_9 : decode cX6_isGoal 9 = .ok (.istore 4, 2) := by decide +kernel
theorem dX6_isGoal_11 : decode cX6_isGoal 11 = .ok (.iload 4, 2) := by decide +kernel
theorem dX6_isGoal_13 : decode cX6_isGoal 13 = .ok (.iload_n 3, 1) := by decide +kernel
theorem dX6_isGoal_14 : decode cX6_isGoal 14 = .ok (.if_icmp .ge 53, 3) := by decide +kernel
theorem dX6_isGoal_17 : decode cX6_isGoal 17 = .ok (.aload_n 0, 1) := by decide +kernel
theorem dX6_isGoal_18 : decode cX6_isGoal 18 = .ok (.getfield 30, 3) := by decide +kernel
theorem dX6_isGoal_21 : decode cX6_isGoal 21 = .ok (.iload 4, 2) := by decide +kernel
theorem dX6_isGoal_23 : decode cX6_isGoal 23 = .ok (.iconst 3, 1) := by decide +kernel
theorem dX6_isGoal_24 : decode cX6_isGoal 24 = .ok (.invokevirtual 85, 3) := by decide +kernel
theorem dX6_isGoal_27 : decode cX6_isGoal 27 = .ok (.iconst 1, 1) := by decide +kernel
theorem dX6_isGoal_28 : decode cX6_isGoal 28 = .ok (.if_icmp .gt 33, 3) := by decide +kernel
theorem dX6_isGoal_31 : decode cX6_isGoal 31 = .ok (.aload_n 0, 1) := by decide +kernel
theorem dX6_isGoal_32 : decode cX6_isGoal 32 = .ok (.getfield 30, 3) := by decide +kernel
theorem dX6_isGoal_35 : decode cX6_isGoal 35 = .ok (.iload 4, 2) := by decide +kernel
theorem dX6_isGoal_37 : decode cX6_isGoal 37 = .ok (.iconst 1, 1) := by decide +kernel
theorem dX6_isGoal_38 : decode cX6_isGoal 38 = .ok (.invokevirtual 85, 3) := by decide +kernel
theorem dX6_isGoal_41 : decode cX6_isGoal 41 = .ok (.iload_n 1, 1) := by decide +kernel
theorem dX6_isGoal_42 : decode cX6_isGoal 42 = .ok (.if_icmp .ne 19, 3) := by decide +kernel
theorem dX6_isGoal_45 : decode cX6_isGoal 45 = .ok (.aload_n 0, 1) := by decide +kernel
theorem dX6_isGoal_46 : decode cX6_isGoal 46 = .ok (.getfield 30, 3) := by decide +kernel
theorem dX6_isGoal_49 : decode cX6_isGoal 49 = .ok (.iload 4, 2) := by decide +kernel
theorem dX6_isGoal_51 : decode cX6_isGoal 51 = .ok (.iconst 2, 1) := by decide +kernel
theorem dX6_isGoal_52 : decode cX6_isGoal 52 = .ok (.invokevirtual 85, 3) := by decide +kernel
theorem dX6_isGoal_55 : decode cX6_isGoal 55 = .ok (.iload_n 2, 1) := by decide +kernel
theorem dX6_isGoal_56 : decode cX6_isGoal 56 = .ok (.if_icmp .ne 5, 3) := by decide +kernel
theorem dX6_isGoal_59 : decode cX6_isGoal 59 = .ok (.iconst 1, 1) := by decide +kernel
theorem dX6_isGoal_60 : decode cX6_isGoal 60 = .ok (.ireturn, 1) := by decide +kernel
theorem dX6_isGoal_61 : decode cX6_isGoal 61 = .ok (.iinc 4 1, 3) := by decide +kernel
theorem dX6_isGoal_64 : decode cX6_isGoal 64 = .ok (.goto (-53), 3) := by decide +kernel
theorem dX6_isGoal_67 : decode cX6_isGoal 67 = .ok (.aload_n 0, 1) := by decide +kernel
theorem dX6_isGoal_68 : decode cX6_isGoal 68 = .ok (.getfield 27, 3) := by decide +kernel
theorem dX6_isGoal_71 : decode cX6_isGoal 71 = .ok (.invokevirtual 81, 3) := by decide +kernel
theorem dX6_isGoal_74 : decode cX6_isGoal 74 = .ok (.istore 4, 2) := by decide +kernel
theorem dX6_isGoal_76 : decode cX6_isGoal 76 = .ok (.iconst 0, 1) := by decide +kernel
theorem dX6_isGoal_77 : decode cX6_isGoal 77 = .ok (.istore 5, 2) := by decide +kernel
theorem dX6_isGoal_79 : decode cX6_isGoal 79 = .ok (.iload 5, 2) := by decide +kernel
theorem dX6_isGoal_81 : decode cX6_isGoal 81 = .ok (.iload 4, 2) := by decide +kernel
theorem dX6_isGoal_83 : decode cX6_isGoal 83 = .ok (.if_icmp .ge 56, 3) := by decide +kernel
theorem dX6_isGoal_86 : decode cX6_isGoal 86 = .ok (.aload_n 0, 1) := by decide +kernel
theorem dX6_isGoal_87 : decode cX6_isGoal 87 = .ok (.getfield 27, 3) := by decide +kernel
theorem dX6_isGoal_90 : decode cX6_isGoal 90 = .ok (.iload 5, 2) := by decide +kernel
theorem dX6_isGoal_92 : decode cX6_isGoal 92 = .ok (.iconst 3, 1) := by decide +kernel
theorem dX6_isGoal_93 : decode cX6_isGoal 93 = .ok (.invokevirtual 85, 3) := by decide +kernel
theorem dX6_isGoal_96 : decode cX6_isGoal 96 = .ok (.aload_n 0, 1) := by decide +kernel
theorem dX6_isGoal_97 : decode cX6_isGoal 97 = .ok (.getfield 52, 3) := by decide +kernel
theorem dX6_isGoal_100 : decode cX6_isGoal 100 = .ok (.if_icmp .lt 33, 3) := by decide +kernel
theorem dX6_isGoal_103 : decode cX6_isGoal 103 = .ok (.aload_n 0, 1) := by decide +kernel
theorem dX6_isGoal_104 : decode cX6_isGoal 104 = .ok (.getfield 27, 3) := by decide +kernel
theorem dX6_isGoal_107 : decode cX6_isGoal 107 = .ok (.iload 5, 2) := by decide +kernel
theorem dX6_isGoal_109 : decode cX6_isGoal 109 = .ok (.iconst 1, 1) := by decide +kernel
theorem dX6_isGoal_110 : decode cX6_isGoal 110 = .ok (.invokevirtual 85, 3) := by decide +kernel
theorem dX6_isGoal_113 : decode cX6_isGoal 113 = .ok (.iload_n 1, 1) := by decide +kernel
theorem dX6_isGoal_114 : decode cX6_isGoal 114 = .ok (.if_icmp .ne 19, 3) := by decide +kernel
theorem dX6_isGoal_117 : decode cX6_isGoal 117 = .ok (.aload_n 0, 1) := by decide +kernel
theorem dX6_isGoal_118 : decode cX6_isGoal 118 = .ok (.getfield 27, 3) := by decide +kernel
theorem dX6_isGoal_121 : decode cX6_isGoal 121 = .ok (.iload 5, 2) := by decide +kernel
theorem dX6_isGoal_123 : decode cX6_isGoal 123 = .ok (.iconst 2, 1) := by decide +kernel
theorem dX6_isGoal_124 : decode cX6_isGoal 124 = .ok (.invokevirtual 85, 3) := by decide +kernel
theorem dX6_isGoal_127 : decode cX6_isGoal 127 = .ok (.iload_n 2, 1) := by decide +kernel
theorem dX6_isGoal_128 : decode cX6_isGoal 128 = .ok (.if_icmp .ne 5, 3) := by decide +kernel
theorem dX6_isGoal_131 : decode cX6_isGoal 131 = .ok (.iconst 1, 1) := by decide +kernel
theorem dX6_isGoal_132 : decode cX6_isGoal 132 = .ok (.ireturn, 1) := by decide +kernel
theorem dX6_isGoal_133 : decode cX6_isGoal 133 = .ok (.iinc 5 1, 3) := by decide +kernel
theorem dX6_isGoal_136 : decode cX6_isGoal 136 = .ok (.goto (-57), 3) := by decide +kernel
theorem dX6_isGoal_139 : decode cX6_isGoal 139 = .ok (.iconst 0, 1) := by decide +kernel
theorem dX6_isGoal_140 : decode cX6_isGoal 140 = .ok (.ireturn, 1) := by decide +kernel
theorem dX6_watches_0 : decode cX6_watches 0 = .ok (.aload_n 0, 1) := by decide +kernel
theorem dX6_watches_1 : decode cX6_watches 1 = .ok (.getfield 24, 3) := by decide +kernel
theorem dX6_watches_4 : decode cX6_watches 4 = .ok (.iload_n 1, 1) := by decide +kernel
theorem dX6_watches_5 : decode cX6_watches 5 = .ok (.iconst 3, 1) := by decide +kernel
theorem dX6_watches_6 : decode cX6_watches 6 = .ok (.invokevirtual 85, 3) := by decide +kernel
theorem dX6_watches_9 : decode cX6_watches 9 = .ok (.istore_n 3, 1) := by decide +kernel
theorem dX6_watches_10 : decode cX6_watches 10 = .ok (.iload_n 3, 1) := by decide +kernel
theorem dX6_watches_11 : decode cX6_watches 11 = .ok (.ifCond .le 7, 3) := by decide +kernel
theorem dX6_watches_14 : decode cX6_watches 14 = .ok (.iload_n 2, 1) := by decide +kernel
theorem dX6_watches_15 : decode cX6_watches 15 = .ok (.ifCond .ge 5, 3) := by decide +kernel
theorem dX6_watches_18 : decode cX6_watches 18 = .ok (.iconst 0, 1) := by decide +kernel
theorem dX6_watches_19 : decode cX6_watches 19 = .ok (.ireturn, 1) := by decide +kernel
theorem dX6_watches_20 : decode cX6_watches 20 = .ok (.iload_n 2, 1) := by decide +kernel
theorem dX6_watches_21 : decode cX6_watches 21 = .ok (.iload_n 3, 1) := by decide +kernel
theorem dX6_watches_22 : decode cX6_watches 22 = .ok (.irem, 1) := by decide +kernel
theorem dX6_watches_23 : decode cX6_watches 23 = .ok (.istore 4, 2) := by decide +kernel
theorem dX6_watches_25 : decode cX6_watches 25 = .ok (.iload 4, 2) := by decide +kernel
theorem dX6_watches_27 : decode cX6_watches 27 = .ok (.aload_n 0, 1) := by decide +kernel
theorem dX6_watches_28 : decode cX6_watches 28 = .ok (.getfield 24, 3) := by decide +kernel
theorem dX6_watches_31 : decode cX6_watches 31 = .ok (.iload_n 1, 1) := by decide +kernel
theorem dX6_watches_32 : decode cX6_watches 32 = .ok (.iconst 4, 1) := by decide +kernel
theorem dX6_watches_33 : decode cX6_watches 33 = .ok (.invokevirtual 85, 3) := by decide +kernel
theorem dX6_watches_36 : decode cX6_watches 36 = .ok (.if_icmp .lt 21, 3) := by decide +kernel
theorem dX6_watches_39 : decode cX6_watches 39 = .ok (.iload 4, 2) := by decide +kernel
theorem dX6_watches_41 : decode cX6_watches 41 = .ok (.aload_n 0, 1) := by decide +kernel
theorem dX6_watches_42 : decode cX6_watches 42 = .ok (.getfield 24, 3) := by decide +kernel
theorem dX6_watches_45 : decode cX6_watches 45 = .ok (.iload_n 1, 1) := by decide +kernel
theorem dX6_watches_46 : decode cX6_watches 46 = .ok (.iconst 5, 1) := by decide +kernel
theorem dX6_watches_47 : decode cX6_watches 47 = .ok (.invokevirtual 85, 3) := by decide +kernel
theorem dX6_watches_50 : decode cX6_watches 50 = .ok (.if_icmp .gt 7, 3) := by decide +kernel
theorem dX6_watches_53 : decode cX6_watches 53 = .ok (.iconst 1, 1) := by decide +kernel
theorem dX6_watches_54 : decode cX6_watches 54 = .ok (.goto 4, 3) := by decide +kernel
theorem dX6_watches_57 : decode cX6_watches 57 = .ok (.iconst 0, 1) := by decide +kernel
theorem dX6_watches_58 : decode cX6_watches 58 = .ok (.ireturn, 1) := by decide +kernel
theorem dX6_watcher_0 : decode cX6_watcher 0 = .ok (.aload_n 0, 1) := by decide +kernel
theorem dX6_watcher_1 : decode cX6_watcher 1 = .ok (.getfield 24, 3) := by decide +kernel
theorem dX6_watcher_4 : decode cX6_watcher 4 = .ok (.invokevirtual 81, 3) := by decide +kernel
theorem dX6_watcher_7 : decode cX6_watcher 7 = .ok (.istore 4, 2) := by decide +kernel
theorem dX6_watcher_9 : decode cX6_watcher 9 = .ok (.iconst 0, 1) := by decide +kernel
theorem dX6_watcher_10 : decode cX6_watcher 10 = .ok (.istore 5, 2) := by decide +kernel
theorem dX6_watcher_12 : decode cX6_watcher 12 = .ok (.iload 5, 2) := by decide +kernel
theorem dX6_watcher_14 : decode cX6_watcher 14 = .ok (.iload 4, 2) := by decide +kernel
theorem dX6_watcher_16 : decode cX6_watcher 16 = .ok (.if_icmp .ge 86, 3) := by decide +kernel
theorem dX6_watcher_19 : decode cX6_watcher 19 = .ok (.aload_n 0, 1) := by decide +kernel
theorem dX6_watcher_20 : decode cX6_watcher 20 = .ok (.getfield 24, 3) := by decide +kernel
theorem dX6_watcher_23 : decode cX6_watcher 23 = .ok (.iload 5, 2) := by decide +kernel
theorem dX6_watcher_25 : decode cX6_watcher 25 = .ok (.iconst 2, 1) := by decide +kernel
theorem dX6_watcher_26 : decode cX6_watcher 26 = .ok (.invokevirtual 85, 3) := by decide +kernel
theorem dX6_watcher_29 : decode cX6_watcher 29 = .ok (.istore 6, 2) := by decide +kernel
theorem dX6_watcher_31 : decode cX6_watcher 31 = .ok (.iload_n 1, 1) := by decide +kernel
theorem dX6_watcher_32 : decode cX6_watcher 32 = .ok (.aload_n 0, 1) := by decide +kernel
theorem dX6_watcher_33 : decode cX6_watcher 33 = .ok (.getfield 24, 3) := by decide +kernel
theorem dX6_watcher_36 : decode cX6_watcher 36 = .ok (.iload 5, 2) := by decide +kernel
theorem dX6_watcher_38 : decode cX6_watcher 38 = .ok (.iconst 0, 1) := by decide +kernel
theorem dX6_watcher_39 : decode cX6_watcher 39 = .ok (.invokevirtual 85, 3) := by decide +kernel
theorem dX6_watcher_42 : decode cX6_watcher 42 = .ok (.isub, 1) := by decide +kernel
theorem dX6_watcher_43 : decode cX6_watcher 43 = .ok (.invokestatic 88, 3) := by decide +kernel
theorem dX6_watcher_46 : decode cX6_watcher 46 = .ok (.iload 6, 2) := by decide +kernel
theorem dX6_watcher_48 : decode cX6_watcher 48 = .ok (.if_icmp .gt 27, 3) := by decide +kernel
theorem dX6_watcher_51 : decode cX6_watcher 51 = .ok (.iload_n 2, 1) := by decide +kernel
theorem dX6_watcher_52 : decode cX6_watcher 52 = .ok (.aload_n 0, 1) := by decide +kernel
theorem dX6_watcher_53 : decode cX6_watcher 53 = .ok (.getfield 24, 3) := by decide +kernel
theorem dX6_watcher_56 : decode cX6_watcher 56 = .ok (.iload 5, 2) := by decide +kernel
theorem dX6_watcher_58 : decode cX6_watcher 58 = .ok (.iconst 1, 1) := by decide +kernel
theorem dX6_watcher_59 : decode cX6_watcher 59 = .ok (.invokevirtual 85, 3) := by decide +kernel
theorem dX6_watcher_62 : decode cX6_watcher 62 = .ok (.isub, 1) := by decide +kernel
theorem dX6_watcher_63 : decode cX6_watcher 63 = .ok (.invokestatic 88, 3) := by decide +kernel
theorem dX6_watcher_66 : decode cX6_watcher 66 = .ok (.iload 6, 2) := by decide +kernel
theorem dX6_watcher_68 : decode cX6_watcher 68 = .ok (.if_icmp .gt 7, 3) := by decide +kernel
theorem dX6_watcher_71 : decode cX6_watcher 71 = .ok (.iconst 1, 1) := by decide +kernel
theorem dX6_watcher_72 : decode cX6_watcher 72 = .ok (.goto 4, 3) := by decide +kernel
theorem dX6_watcher_75 : decode cX6_watcher 75 = .ok (.iconst 0, 1) := by decide +kernel
theorem dX6_watcher_76 : decode cX6_watcher 76 = .ok (.istore 7, 2) := by decide +kernel
theorem dX6_watcher_78 : decode cX6_watcher 78 = .ok (.iload 7, 2) := by decide +kernel
theorem dX6_watcher_80 : decode cX6_watcher 80 = .ok (.ifCond .eq 16, 3) := by decide +kernel
theorem dX6_watcher_83 : decode cX6_watcher 83 = .ok (.aload_n 0, 1) := by decide +kernel
theorem dX6_watcher_84 : decode cX6_watcher 84 = .ok (.iload 5, 2) := by decide +kernel
theorem dX6_watcher_86 : decode cX6_watcher 86 = .ok (.iload_n 3, 1) := by decide +kernel
theorem dX6_watcher_87 : decode cX6_watcher 87 = .ok (.invokevirtual 94, 3) := by decide +kernel
theorem dX6_watcher_90 : decode cX6_watcher 90 = .ok (.ifCond .eq 6, 3) := by decide +kernel
theorem dX6_watcher_93 : decode cX6_watcher 93 = .ok (.iload 5, 2) := by decide +kernel
theorem dX6_watcher_95 : decode cX6_watcher 95 = .ok (.ireturn, 1) := by decide +kernel
theorem dX6_watcher_96 : decode cX6_watcher 96 = .ok (.iinc 5 1, 3) := by decide +kernel
theorem dX6_watcher_99 : decode cX6_watcher 99 = .ok (.goto (-87), 3) := by decide +kernel
theorem dX6_watcher_102 : decode cX6_watcher 102 = .ok (.iconst (-1), 1) := by decide +kernel
theorem dX6_watcher_103 : decode cX6_watcher 103 = .ok (.ireturn, 1) := by decide +kernel
theorem dX6_obeyedBy_0 : decode cX6_obeyedBy 0 = .ok (.aload_n 0, 1) := by decide +kernel
theorem dX6_obeyedBy_1 : decode cX6_obeyedBy 1 = .ok (.getfield 20, 3) := by decide +kernel
theorem dX6_obeyedBy_4 : decode cX6_obeyedBy 4 = .ok (.iload_n 1, 1) := by decide +kernel
theorem dX6_obeyedBy_5 : decode cX6_obeyedBy 5 = .ok (.iconst 3, 1) := by decide +kernel
theorem dX6_obeyedBy_6 : decode cX6_obeyedBy 6 = .ok (.invokevirtual 85, 3) := by decide +kernel
theorem dX6_obeyedBy_9 : decode cX6_obeyedBy 9 = .ok (.istore_n 2, 1) := by decide +kernel
theorem dX6_obeyedBy_10 : decode cX6_obeyedBy 10 = .ok (.aload_n 0, 1) := by decide +kernel
theorem dX6_obeyedBy_11 : decode cX6_obeyedBy 11 = .ok (.getfield 30, 3) := by decide +kernel
theorem dX6_obeyedBy_14 : decode cX6_obeyedBy 14 = .ok (.iload_n 2, 1) := by decide +kernel
theorem dX6_obeyedBy_15 : decode cX6_obeyedBy 15 = .ok (.iconst 3, 1) := by decide +kernel
theorem dX6_obeyedBy_16 : decode cX6_obeyedBy 16 = .ok (.invokevirtual 85, 3) := by decide +kernel
theorem dX6_obeyedBy_19 : decode cX6_obeyedBy 19 = .ok (.iconst 1, 1) := by decide +kernel
theorem dX6_obeyedBy_20 : decode cX6_obeyedBy 20 = .ok (.if_icmp .ne 7, 3) := by decide +kernel
theorem dX6_obeyedBy_23 : decode cX6_obeyedBy 23 = .ok (.iload_n 2, 1) := by decide +kernel
theorem dX6_obeyedBy_24 : decode cX6_obeyedBy 24 = .ok (.goto 4, 3) := by decide +kernel
theorem dX6_obeyedBy_27 : decode cX6_obeyedBy 27 = .ok (.iconst (-1), 1) := by decide +kernel
theorem dX6_obeyedBy_28 : decode cX6_obeyedBy 28 = .ok (.ireturn, 1) := by decide +kernel
theorem dX6_awaitedBy_0 : decode cX6_awaitedBy 0 = .ok (.iconst 0, 1) := by decide +kernel
theorem dX6_awaitedBy_1 : decode cX6_awaitedBy 1 = .ok (.istore_n 2, 1) := by decide +kernel
theorem dX6_awaitedBy_2 : decode cX6_awaitedBy 2 = .ok (.aload_n 0, 1) := by decide +kernel
theorem dX6_awaitedBy_3 : decode cX6_awaitedBy 3 = .ok (.getfield 30, 3) := by decide +kernel
theorem dX6_awaitedBy_6 : decode cX6_awaitedBy 6 = .ok (.invokevirtual 81, 3) := by decide +kernel
theorem dX6_awaitedBy_9 : decode cX6_awaitedBy 9 = .ok (.istore_n 3, 1) := by decide +kernel
theorem dX6_awaitedBy_10 : decode cX6_awaitedBy 10 = .ok (.iconst 0, 1) := by decide +kernel
theorem dX6_awaitedBy_11 : decode cX6_awaitedBy 11 = .ok (.istore 4, 2) := by decide +kernel
theorem dX6_awaitedBy_13 : decode cX6_awaitedBy 13 = .ok (.iload 4, 2) := by decide +kernel
theorem dX6_awaitedBy_15 : decode cX6_awaitedBy 15 = .ok (.iload_n 3, 1) := by decide +kernel
theorem dX6_awaitedBy_16 : decode cX6_awaitedBy 16 = .ok (.if_icmp .ge 39, 3) := by decide +kernel
theorem dX6_awaitedBy_19 : decode cX6_awaitedBy 19 = .ok (.aload_n 0, 1) := by decide +kernel
theorem dX6_awaitedBy_20 : decode cX6_awaitedBy 20 = .ok (.getfield 30, 3) := by decide +kernel
theorem dX6_awaitedBy_23 : decode cX6_awaitedBy 23 = .ok (.iload 4, 2) := by decide +kernel
theorem dX6_awaitedBy_25 : decode cX6_awaitedBy 25 = .ok (.iconst 0, 1) := by decide +kernel
theorem dX6_awaitedBy_26 : decode cX6_awaitedBy 26 = .ok (.invokevirtual 85, 3) := by decide +kernel
theorem dX6_awaitedBy_29 : decode cX6_awaitedBy 29 = .ok (.iload_n 1, 1) := by decide +kernel
theorem dX6_awaitedBy_30 : decode cX6_awaitedBy 30 = .ok (.if_icmp .ne 19, 3) := by decide +kernel
theorem dX6_awaitedBy_33 : decode cX6_awaitedBy 33 = .ok (.aload_n 0, 1) := by decide +kernel
theorem dX6_awaitedBy_34 : decode cX6_awaitedBy 34 = .ok (.getfield 30, 3) := by decide +kernel
theorem dX6_awaitedBy_37 : decode cX6_awaitedBy 37 = .ok (.iload 4, 2) := by decide +kernel
theorem dX6_awaitedBy_39 : decode cX6_awaitedBy 39 = .ok (.iconst 3, 1) := by decide +kernel
theorem dX6_awaitedBy_40 : decode cX6_awaitedBy 40 = .ok (.invokevirtual 85, 3) := by decide +kernel
theorem dX6_awaitedBy_43 : decode cX6_awaitedBy 43 = .ok (.ifCond .ne 6, 3) := by decide +kernel
theorem dX6_awaitedBy_46 : decode cX6_awaitedBy 46 = .ok (.iinc 2 1, 3) := by decide +kernel
theorem dX6_awaitedBy_49 : decode cX6_awaitedBy 49 = .ok (.iinc 4 1, 3) := by decide +kernel
theorem dX6_awaitedBy_52 : decode cX6_awaitedBy 52 = .ok (.goto (-39), 3) := by decide +kernel
theorem dX6_awaitedBy_55 : decode cX6_awaitedBy 55 = .ok (.iload_n 2, 1) := by decide +kernel
theorem dX6_awaitedBy_56 : decode cX6_awaitedBy 56 = .ok (.ireturn, 1) := by decide +kernel
theorem dX6_ordersIn_0 : decode cX6_ordersIn 0 = .ok (.iconst 0, 1) := by decide +kernel
theorem dX6_ordersIn_1 : decode cX6_ordersIn 1 = .ok (.istore_n 2, 1) := by decide +kernel
theorem dX6_ordersIn_2 : decode cX6_ordersIn 2 = .ok (.aload_n 0, 1) := by decide +kernel
theorem dX6_ordersIn_3 : decode cX6_ordersIn 3 = .ok (.getfield 30, 3) := by decide +kernel
theorem dX6_ordersIn_6 : decode cX6_ordersIn 6 = .ok (.invokevirtual 81, 3) := by decide +kernel
theorem dX6_ordersIn_9 : decode cX6_ordersIn 9 = .ok (.istore_n 3, 1) := by decide +kernel
theorem dX6_ordersIn_10 : decode cX6_ordersIn 10 = .ok (.iconst 0, 1) := by decide +kernel
theorem dX6_ordersIn_11 : decode cX6_ordersIn 11 = .ok (.istore 4, 2) := by decide +kernel
theorem dX6_ordersIn_13 : decode cX6_ordersIn 13 = .ok (.iload 4, 2) := by decide +kernel
theorem dX6_ordersIn_15 : decode cX6_ordersIn 15 = .ok (.iload_n 3, 1) := by decide +kernel
theorem dX6_ordersIn_16 : decode cX6_ordersIn 16 = .ok (.if_icmp .ge 26, 3) := by decide +kernel
theorem dX6_ordersIn_19 : decode cX6_ordersIn 19 = .ok (.aload_n 0, 1) := by decide +kernel
theorem dX6_ordersIn_20 : decode cX6_ordersIn 20 = .ok (.getfield 30, 3) := by decide +kernel
theorem dX6_ordersIn_23 : decode cX6_ordersIn 23 = .ok (.iload 4, 2) := by decide +kernel
theorem dX6_ordersIn_25 : decode cX6_ordersIn 25 = .ok (.iconst 3, 1) := by decide +kernel
theorem dX6_ordersIn_26 : decode cX6_ordersIn 26 = .ok (.invokevirtual 85, 3) := by decide +kernel
theorem dX6_ordersIn_29 : decode cX6_ordersIn 29 = .ok (.iload_n 1, 1) := by decide +kernel
theorem dX6_ordersIn_30 : decode cX6_ordersIn 30 = .ok (.if_icmp .ne 6, 3) := by decide +kernel
theorem dX6_ordersIn_33 : decode cX6_ordersIn 33 = .ok (.iinc 2 1, 3) := by decide +kernel
theorem dX6_ordersIn_36 : decode cX6_ordersIn 36 = .ok (.iinc 4 1, 3) := by decide +kernel
theorem dX6_ordersIn_39 : decode cX6_ordersIn 39 = .ok (.goto (-26), 3) := by decide +kernel
theorem dX6_ordersIn_42 : decode cX6_ordersIn 42 = .ok (.iload_n 2, 1) := by decide +kernel
theorem dX6_ordersIn_43 : decode cX6_ordersIn 43 = .ok (.ireturn, 1) := by decide +kernel
theorem dX6_overtakes_0 : decode cX6_overtakes 0 = .ok (.aload_n 0, 1) := by decide +kernel
theorem dX6_overtakes_1 : decode cX6_overtakes 1 = .ok (.getfield 30, 3) := by decide +kernel
theorem dX6_overtakes_4 : decode cX6_overtakes 4 = .ok (.iload_n 1, 1) := by decide +kernel
theorem dX6_overtakes_5 : decode cX6_overtakes 5 = .ok (.iconst 5, 1) := by decide +kernel
theorem dX6_overtakes_6 : decode cX6_overtakes 6 = .ok (.invokevirtual 85, 3) := by decide +kernel
theorem dX6_overtakes_9 : decode cX6_overtakes 9 = .ok (.istore_n 3, 1) := by decide +kernel
theorem dX6_overtakes_10 : decode cX6_overtakes 10 = .ok (.iload_n 3, 1) := by decide +kernel
theorem dX6_overtakes_11 : decode cX6_overtakes 11 = .ok (.iconst (-1), 1) := by decide +kernel
theorem dX6_overtakes_12 : decode cX6_overtakes 12 = .ok (.if_icmp .eq 41, 3) := by decide +kernel
theorem dX6_overtakes_15 : decode cX6_overtakes 15 = .ok (.iload_n 3, 1) := by decide +kernel
theorem dX6_overtakes_16 : decode cX6_overtakes 16 = .ok (.aload_n 0, 1) := by decide +kernel
theorem dX6_overtakes_17 : decode cX6_overtakes 17 = .ok (.getfield 30, 3) := by decide +kernel
theorem dX6_overtakes_20 : decode cX6_overtakes 20 = .ok (.iload_n 2, 1) := by decide +kernel
theorem dX6_overtakes_21 : decode cX6_overtakes 21 = .ok (.iconst 5, 1) := by decide +kernel
theorem dX6_overtakes_22 : decode cX6_overtakes 22 = .ok (.invokevirtual 85, 3) := by decide +kernel
theorem dX6_overtakes_25 : decode cX6_overtakes 25 = .ok (.if_icmp .ge 28, 3) := by decide +kernel
theorem dX6_overtakes_28 : decode cX6_overtakes 28 = .ok (.aload_n 0, 1) := by decide +kernel
theorem dX6_overtakes_29 : decode cX6_overtakes 29 = .ok (.getfield 30, 3) := by decide +kernel
theorem dX6_overtakes_32 : decode cX6_overtakes 32 = .ok (.iload_n 1, 1) := by decide +kernel
theorem dX6_overtakes_33 : decode cX6_overtakes 33 = .ok (.iconst 0, 1) := by decide +kernel
theorem dX6_overtakes_34 : decode cX6_overtakes 34 = .ok (.invokevirtual 85, 3) := by decide +kernel
theorem dX6_overtakes_37 : decode cX6_overtakes 37 = .ok (.aload_n 0, 1) := by decide +kernel
theorem dX6_overtakes_38 : decode cX6_overtakes 38 = .ok (.getfield 30, 3) := by decide +kernel
theorem dX6_overtakes_41 : decode cX6_overtakes 41 = .ok (.iload_n 2, 1) := by decide +kernel
theorem dX6_overtakes_42 : decode cX6_overtakes 42 = .ok (.iconst 0, 1) := by decide +kernel
theorem dX6_overtakes_43 : decode cX6_overtakes 43 = .ok (.invokevirtual 85, 3) := by decide +kernel
theorem dX6_overtakes_46 : decode cX6_overtakes 46 = .ok (.if_icmp .ne 7, 3) := by decide +kernel
theorem dX6_overtakes_49 : decode cX6_overtakes 49 = .ok (.iconst 1, 1) := by decide +kernel
theorem dX6_overtakes_50 : decode cX6_overtakes 50 = .ok (.goto 4, 3) := by decide +kernel
theorem dX6_overtakes_53 : decode cX6_overtakes 53 = .ok (.iconst 0, 1) := by decide +kernel
theorem dX6_overtakes_54 : decode cX6_overtakes 54 = .ok (.ireturn, 1) := by decide +kernel
theorem dX6_addUnit_0 : decode cX6_addUnit 0 = .ok (.aload_n 0, 1) := by decide +kernel
theorem dX6_addUnit_1 : decode cX6_addUnit 1 = .ok (.getfield 20, 3) := by decide +kernel
theorem dX6_addUnit_4 : decode cX6_addUnit 4 = .ok (.invokevirtual 98, 3) := by decide +kernel
theorem dX6_addUnit_7 : decode cX6_addUnit 7 = .ok (.istore 4, 2) := by decide +kernel
theorem dX6_addUnit_9 : decode cX6_addUnit 9 = .ok (.aload_n 0, 1) := by decide +kernel
theorem dX6_addUnit_10 : decode cX6_addUnit 10 = .ok (.getfield 20, 3) := by decide +kernel
theorem dX6_addUnit_13 : decode cX6_addUnit 13 = .ok (.iload 4, 2) := by decide +kernel
theorem dX6_addUnit_15 : decode cX6_addUnit 15 = .ok (.iconst 0, 1) := by decide +kernel
theorem dX6_addUnit_16 : decode cX6_addUnit 16 = .ok (.iload_n 1, 1) := by decide +kernel
theorem dX6_addUnit_17 : decode cX6_addUnit 17 = .ok (.invokevirtual 101, 3) := by decide +kernel
theorem dX6_addUnit_20 : decode cX6_addUnit 20 = .ok (.aload_n 0, 1) := by decide +kernel
theorem dX6_addUnit_21 : decode cX6_addUnit 21 = .ok (.getfield 20, 3) := by decide +kernel
theorem dX6_addUnit_24 : decode cX6_addUnit 24 = .ok (.iload 4, 2) := by decide +kernel
theorem dX6_addUnit_26 : decode cX6_addUnit 26 = .ok (.iconst 1, 1) := by decide +kernel
theorem dX6_addUnit_27 : decode cX6_addUnit 27 = .ok (.iload_n 2, 1) := by decide +kernel
theorem dX6_addUnit_28 : decode cX6_addUnit 28 = .ok (.invokevirtual 101, 3) := by decide +kernel
theorem dX6_addUnit_31 : decode cX6_addUnit 31 = .ok (.aload_n 0, 1) := by decide +kernel
theorem dX6_addUnit_32 : decode cX6_addUnit 32 = .ok (.getfield 20, 3) := by decide +kernel
theorem dX6_addUnit_35 : decode cX6_addUnit 35 = .ok (.iload 4, 2) := by decide +kernel
theorem dX6_addUnit_37 : decode cX6_addUnit 37 = .ok (.iconst 2, 1) := by decide +kernel
theorem dX6_addUnit_38 : decode cX6_addUnit 38 = .ok (.iload_n 3, 1) := by decide +kernel
theorem dX6_addUnit_39 : decode cX6_addUnit 39 = .ok (.invokevirtual 101, 3) := by decide +kernel
theorem dX6_addUnit_42 : decode cX6_addUnit 42 = .ok (.aload_n 0, 1) := by decide +kernel
theorem dX6_addUnit_43 : decode cX6_addUnit 43 = .ok (.getfield 20, 3) := by decide +kernel
theorem dX6_addUnit_46 : decode cX6_addUnit 46 = .ok (.iload 4, 2) := by decide +kernel
theorem dX6_addUnit_48 : decode cX6_addUnit 48 = .ok (.iconst 3, 1) := by decide +kernel
theorem dX6_addUnit_49 : decode cX6_addUnit 49 = .ok (.iconst (-1), 1) := by decide +kernel
theorem dX6_addUnit_50 : decode cX6_addUnit 50 = .ok (.invokevirtual 101, 3) := by decide +kernel
theorem dX6_addUnit_53 : decode cX6_addUnit 53 = .ok (.iload 4, 2) := by decide +kernel
theorem dX6_addUnit_55 : decode cX6_addUnit 55 = .ok (.ireturn, 1) := by decide +kernel
theorem dX6_addOrder_0 : decode cX6_addOrder 0 = .ok (.aload_n 0, 1) := by decide +kernel
theorem dX6_addOrder_1 : decode cX6_addOrder 1 = .ok (.getfield 30, 3) := by decide +kernel
theorem dX6_addOrder_4 : decode cX6_addOrder 4 = .ok (.invokevirtual 98, 3) := by decide +kernel
theorem dX6_addOrder_7 : decode cX6_addOrder 7 = .ok (.istore 4, 2) := by decide +kernel
theorem dX6_addOrder_9 : decode cX6_addOrder 9 = .ok (.aload_n 0, 1) := by decide +kernel
theorem dX6_addOrder_10 : decode cX6_addOrder 10 = .ok (.getfield 30, 3) := by decide +kernel
theorem dX6_addOrder_13 : decode cX6_addOrder 13 = .ok (.iload 4, 2) := by decide +kernel
theorem dX6_addOrder_15 : decode cX6_addOrder 15 = .ok (.iconst 0, 1) := by decide +kernel
theorem dX6_addOrder_16 : decode cX6_addOrder 16 = .ok (.iload_n 1, 1) := by decide +kernel
theorem dX6_addOrder_17 : decode cX6_addOrder 17 = .ok (.invokevirtual 101, 3) := by decide +kernel
theorem dX6_addOrder_20 : decode cX6_addOrder 20 = .ok (.aload_n 0, 1) := by decide +kernel
theorem dX6_addOrder_21 : decode cX6_addOrder 21 = .ok (.getfield 30, 3) := by decide +kernel
theorem dX6_addOrder_24 : decode cX6_addOrder 24 = .ok (.iload 4, 2) := by decide +kernel
theorem dX6_addOrder_26 : decode cX6_addOrder 26 = .ok (.iconst 1, 1) := by decide +kernel
theorem dX6_addOrder_27 : decode cX6_addOrder 27 = .ok (.iload_n 2, 1) := by decide +kernel
theorem dX6_addOrder_28 : decode cX6_addOrder 28 = .ok (.invokevirtual 101, 3) := by decide +kernel
theorem dX6_addOrder_31 : decode cX6_addOrder 31 = .ok (.aload_n 0, 1) := by decide +kernel
theorem dX6_addOrder_32 : decode cX6_addOrder 32 = .ok (.getfield 30, 3) := by decide +kernel
theorem dX6_addOrder_35 : decode cX6_addOrder 35 = .ok (.iload 4, 2) := by decide +kernel
theorem dX6_addOrder_37 : decode cX6_addOrder 37 = .ok (.iconst 2, 1) := by decide +kernel
theorem dX6_addOrder_38 : decode cX6_addOrder 38 = .ok (.iload_n 3, 1) := by decide +kernel
theorem dX6_addOrder_39 : decode cX6_addOrder 39 = .ok (.invokevirtual 101, 3) := by decide +kernel
theorem dX6_addOrder_42 : decode cX6_addOrder 42 = .ok (.aload_n 0, 1) := by decide +kernel
theorem dX6_addOrder_43 : decode cX6_addOrder 43 = .ok (.getfield 30, 3) := by decide +kernel
theorem dX6_addOrder_46 : decode cX6_addOrder 46 = .ok (.iload 4, 2) := by decide +kernel
theorem dX6_addOrder_48 : decode cX6_addOrder 48 = .ok (.iconst 3, 1) := by decide +kernel
theorem dX6_addOrder_49 : decode cX6_addOrder 49 = .ok (.iconst 0, 1) := by decide +kernel
theorem dX6_addOrder_50 : decode cX6_addOrder 50 = .ok (.invokevirtual 101, 3) := by decide +kernel
theorem dX6_addOrder_53 : decode cX6_addOrder 53 = .ok (.aload_n 0, 1) := by decide +kernel
theorem dX6_addOrder_54 : decode cX6_addOrder 54 = .ok (.getfield 30, 3) := by decide +kernel
theorem dX6_addOrder_57 : decode cX6_addOrder 57 = .ok (.iload 4, 2) := by decide +kernel
theorem dX6_addOrder_59 : decode cX6_addOrder 59 = .ok (.iconst 4, 1) := by decide +kernel
theorem dX6_addOrder_60 : decode cX6_addOrder 60 = .ok (.aload_n 0, 1) := by decide +kernel
theorem dX6_addOrder_61 : decode cX6_addOrder 61 = .ok (.getfield 52, 3) := by decide +kernel
theorem dX6_addOrder_64 : decode cX6_addOrder 64 = .ok (.invokevirtual 101, 3) := by decide +kernel
theorem dX6_addOrder_67 : decode cX6_addOrder 67 = .ok (.aload_n 0, 1) := by decide +kernel
theorem dX6_addOrder_68 : decode cX6_addOrder 68 = .ok (.getfield 30, 3) := by decide +kernel
theorem dX6_addOrder_71 : decode cX6_addOrder 71 = .ok (.iload 4, 2) := by decide +kernel
theorem dX6_addOrder_73 : decode cX6_addOrder 73 = .ok (.iconst 5, 1) := by decide +kernel
theorem dX6_addOrder_74 : decode cX6_addOrder 74 = .ok (.iconst (-1), 1) := by decide +kernel
theorem dX6_addOrder_75 : decode cX6_addOrder 75 = .ok (.invokevirtual 101, 3) := by decide +kernel
theorem dX6_addOrder_78 : decode cX6_addOrder 78 = .ok (.aload_n 0, 1) := by decide +kernel
theorem dX6_addOrder_79 : decode cX6_addOrder 79 = .ok (.getfield 30, 3) := by decide +kernel
theorem dX6_addOrder_82 : decode cX6_addOrder 82 = .ok (.iload 4, 2) := by decide +kernel
theorem dX6_addOrder_84 : decode cX6_addOrder 84 = .ok (.bipush 6, 2) := by decide +kernel
theorem dX6_addOrder_86 : decode cX6_addOrder 86 = .ok (.iconst (-1), 1) := by decide +kernel
theorem dX6_addOrder_87 : decode cX6_addOrder 87 = .ok (.invokevirtual 101, 3) := by decide +kernel
theorem dX6_addOrder_90 : decode cX6_addOrder 90 = .ok (.aload_n 0, 1) := by decide +kernel
theorem dX6_addOrder_91 : decode cX6_addOrder 91 = .ok (.getfield 30, 3) := by decide +kernel
theorem dX6_addOrder_94 : decode cX6_addOrder 94 = .ok (.iload 4, 2) := by decide +kernel
theorem dX6_addOrder_96 : decode cX6_addOrder 96 = .ok (.bipush 7, 2) := by decide +kernel
theorem dX6_addOrder_98 : decode cX6_addOrder 98 = .ok (.aload_n 0, 1) := by decide +kernel
theorem dX6_addOrder_99 : decode cX6_addOrder 99 = .ok (.getfield 46, 3) := by decide +kernel
theorem dX6_addOrder_102 : decode cX6_addOrder 102 = .ok (.invokevirtual 101, 3) := by decide +kernel
theorem dX6_addOrder_105 : decode cX6_addOrder 105 = .ok (.aload_n 0, 1) := by decide +kernel
theorem dX6_addOrder_106 : decode cX6_addOrder 106 = .ok (.getfield 30, 3) := by decide +kernel
theorem dX6_addOrder_109 : decode cX6_addOrder 109 = .ok (.iload 4, 2) := by decide +kernel
theorem dX6_addOrder_111 : decode cX6_addOrder 111 = .ok (.bipush 8, 2) := by decide +kernel
theorem dX6_addOrder_113 : decode cX6_addOrder 113 = .ok (.aload_n 0, 1) := by decide +kernel
theorem dX6_addOrder_114 : decode cX6_addOrder 114 = .ok (.getfield 49, 3) := by decide +kernel
theorem dX6_addOrder_117 : decode cX6_addOrder 117 = .ok (.invokevirtual 101, 3) := by decide +kernel
theorem dX6_addOrder_120 : decode cX6_addOrder 120 = .ok (.aload_n 0, 1) := by decide +kernel
theorem dX6_addOrder_121 : decode cX6_addOrder 121 = .ok (.getfield 30, 3) := by decide +kernel
theorem dX6_addOrder_124 : decode cX6_addOrder 124 = .ok (.iload 4, 2) := by decide +kernel
theorem dX6_addOrder_126 : decode cX6_addOrder 126 = .ok (.bipush 9, 2) := by decide +kernel
theorem dX6_addOrder_128 : decode cX6_addOrder 128 = .ok (.iconst 0, 1) := by decide +kernel
theorem dX6_addOrder_129 : decode cX6_addOrder 129 = .ok (.invokevirtual 101, 3) := by decide +kernel
theorem dX6_addOrder_132 : decode cX6_addOrder 132 = .ok (.iload 4, 2) := by decide +kernel
theorem dX6_addOrder_134 : decode cX6_addOrder 134 = .ok (.ireturn, 1) := by decide +kernel
theorem dX6_changeOrder_0 : decode cX6_changeOrder 0 = .ok (.aload_n 0, 1) := by decide +kernel
theorem dX6_changeOrder_1 : decode cX6_changeOrder 1 = .ok (.getfield 30, 3) := by decide +kernel
theorem dX6_changeOrder_4 : decode cX6_changeOrder 4 = .ok (.iload_n 1, 1) := by decide +kernel
theorem dX6_changeOrder_5 : decode cX6_changeOrder 5 = .ok (.iconst 3, 1) := by decide +kernel
theorem dX6_changeOrder_6 : decode cX6_changeOrder 6 = .ok (.iload_n 2, 1) := by decide +kernel
theorem dX6_changeOrder_7 : decode cX6_changeOrder 7 = .ok (.invokevirtual 101, 3) := by decide +kernel
theorem dX6_changeOrder_10 : decode cX6_changeOrder 10 = .ok (.iload_n 2, 1) := by decide +kernel
theorem dX6_changeOrder_11 : decode cX6_changeOrder 11 = .ok (.iconst 1, 1) := by decide +kernel
theorem dX6_changeOrder_12 : decode cX6_changeOrder 12 = .ok (.if_icmp .eq 17, 3) := by decide +kernel
theorem dX6_changeOrder_15 : decode cX6_changeOrder 15 = .ok (.aload_n 0, 1) := by decide +kernel
theorem dX6_changeOrder_16 : decode cX6_changeOrder 16 = .ok (.getfield 30, 3) := by decide +kernel
theorem dX6_changeOrder_19 : decode cX6_changeOrder 19 = .ok (.iload_n 1, 1) := by decide +kernel
theorem dX6_changeOrder_20 : decode cX6_changeOrder 20 = .ok (.bipush 6, 2) := by decide +kernel
theorem dX6_changeOrder_22 : decode cX6_changeOrder 22 = .ok (.aload_n 0, 1) := by decide +kernel
theorem dX6_changeOrder_23 : decode cX6_changeOrder 23 = .ok (.getfield 52, 3) := by decide +kernel
theorem dX6_changeOrder_26 : decode cX6_changeOrder 26 = .ok (.invokevirtual 101, 3) := by decide +kernel
theorem dX6_changeOrder_29 : decode cX6_changeOrder 29 = .ok (.aload_n 0, 1) := by decide +kernel
theorem dX6_changeOrder_30 : decode cX6_changeOrder 30 = .ok (.getfield 33, 3) := by decide +kernel
theorem dX6_changeOrder_33 : decode cX6_changeOrder 33 = .ok (.invokevirtual 98, 3) := by decide +kernel
theorem dX6_changeOrder_36 : decode cX6_changeOrder 36 = .ok (.istore_n 3, 1) := by decide +kernel
theorem dX6_changeOrder_37 : decode cX6_changeOrder 37 = .ok (.aload_n 0, 1) := by decide +kernel
theorem dX6_changeOrder_38 : decode cX6_changeOrder 38 = .ok (.getfield 33, 3) := by decide +kernel
theorem dX6_changeOrder_41 : decode cX6_changeOrder 41 = .ok (.iload_n 3, 1) := by decide +kernel
theorem dX6_changeOrder_42 : decode cX6_changeOrder 42 = .ok (.iconst 0, 1) := by decide +kernel
theorem dX6_changeOrder_43 : decode cX6_changeOrder 43 = .ok (.aload_n 0, 1) := by decide +kernel
theorem dX6_changeOrder_44 : decode cX6_changeOrder 44 = .ok (.getfield 52, 3) := by decide +kernel
theorem dX6_changeOrder_47 : decode cX6_changeOrder 47 = .ok (.invokevirtual 101, 3) := by decide +kernel
theorem dX6_changeOrder_50 : decode cX6_changeOrder 50 = .ok (.aload_n 0, 1) := by decide +kernel
theorem dX6_changeOrder_51 : decode cX6_changeOrder 51 = .ok (.getfield 33, 3) := by decide +kernel
theorem dX6_changeOrder_54 : decode cX6_changeOrder 54 = .ok (.iload_n 3, 1) := by decide +kernel
theorem dX6_changeOrder_55 : decode cX6_changeOrder 55 = .ok (.iconst 1, 1) := by decide +kernel
theorem dX6_changeOrder_56 : decode cX6_changeOrder 56 = .ok (.iload_n 1, 1) := by decide +kernel
theorem dX6_changeOrder_57 : decode cX6_changeOrder 57 = .ok (.invokevirtual 101, 3) := by decide +kernel
theorem dX6_changeOrder_60 : decode cX6_changeOrder 60 = .ok (.aload_n 0, 1) := by decide +kernel
theorem dX6_changeOrder_61 : decode cX6_changeOrder 61 = .ok (.getfield 33, 3) := by decide +kernel
theorem dX6_changeOrder_64 : decode cX6_changeOrder 64 = .ok (.iload_n 3, 1) := by decide +kernel
theorem dX6_changeOrder_65 : decode cX6_changeOrder 65 = .ok (.iconst 2, 1) := by decide +kernel
theorem dX6_changeOrder_66 : decode cX6_changeOrder 66 = .ok (.iload_n 2, 1) := by decide +kernel
theorem dX6_changeOrder_67 : decode cX6_changeOrder 67 = .ok (.invokevirtual 101, 3) := by decide +kernel
theorem dX6_changeOrder_70 : decode cX6_changeOrder 70 = .ok (.return_, 1) := by decide +kernel
theorem dX7_init_0 : decode cX7_init 0 = .ok (.aload_n 0, 1) := by decide +kernel
theorem dX7_init_1 : decode cX7_init 1 = .ok (.invokespecial 3, 3) := by decide +kernel
theorem dX7_init_4 : decode cX7_init 4 = .ok (.iload_n 1, 1) := by decide +kernel
theorem dX7_init_5 : decode cX7_init 5 = .ok (.ifCond .lt 23, 3) := by decide +kernel
theorem dX7_init_8 : decode cX7_init 8 = .ok (.iload_n 1, 1) := by decide +kernel
theorem dX7_init_9 : decode cX7_init 9 = .ok (.bipush 80, 2) := by decide +kernel
theorem dX7_init_11 : decode cX7_init 11 = .ok (.if_icmp .gt 17, 3) := by decide +kernel
theorem dX7_init_14 : decode cX7_init 14 = .ok (.iload_n 2, 1) := by decide +kernel
theorem dX7_init_15 : decode cX7_init 15 = .ok (.ifCond .lt 13, 3) := by decide +kernel
theorem dX7_init_18 : decode cX7_init 18 = .ok (.iload_n 2, 1) := by decide +kernel
theorem dX7_init_19 : decode cX7_init 19 = .ok (.bipush 10, 2) := by decide +kernel
theorem dX7_init_21 : decode cX7_init 21 = .ok (.if_icmp .gt 7, 3) := by decide +kernel
theorem dX7_init_24 : decode cX7_init 24 = .ok (.iconst 1, 1) := by decide +kernel
theorem dX7_init_25 : decode cX7_init 25 = .ok (.goto 4, 3) := by decide +kernel
theorem dX7_init_28 : decode cX7_init 28 = .ok (.iconst 0, 1) := by decide +kernel
theorem dX7_init_29 : decode cX7_init 29 = .ok (.istore_n 3, 1) := by decide +kernel
theorem dX7_init_30 : decode cX7_init 30 = .ok (.aload_n 0, 1) := by decide +kernel
theorem dX7_init_31 : decode cX7_init 31 = .ok (.iload_n 3, 1) := by decide +kernel
theorem dX7_init_32 : decode cX7_init 32 = .ok (.ifCond .eq 7, 3) := by decide +kernel
theorem dX7_init_35 : decode cX7_init 35 = .ok (.iload_n 1, 1) := by decide +kernel
theorem dX7_init_36 : decode cX7_init 36 = .ok (.goto 4, 3) := by decide +kernel
theorem dX7_init_39 : decode cX7_init 39 = .ok (.iconst 0, 1) := by decide +kernel
theorem dX7_init_40 : decode cX7_init 40 = .ok (.putfield 9, 3) := by decide +kernel
theorem dX7_init_43 : decode cX7_init 43 = .ok (.aload_n 0, 1) := by decide +kernel
theorem dX7_init_44 : decode cX7_init 44 = .ok (.iload_n 3, 1) := by decide +kernel
theorem dX7_init_45 : decode cX7_init 45 = .ok (.ifCond .eq 7, 3) := by decide +kernel
theorem dX7_init_48 : decode cX7_init 48 = .ok (.iload_n 2, 1) := by decide +kernel
theorem dX7_init_49 : decode cX7_init 49 = .ok (.goto 4, 3) := by decide +kernel
theorem dX7_init_52 : decode cX7_init 52 = .ok (.iconst 0, 1) := by decide +kernel
theorem dX7_init_53 : decode cX7_init 53 = .ok (.putfield 15, 3) := by decide +kernel
theorem dX7_init_56 : decode cX7_init 56 = .ok (.aload_n 0, 1) := by decide +kernel
theorem dX7_init_57 : decode cX7_init 57 = .ok (.iload_n 3, 1) := by decide +kernel
theorem dX7_init_58 : decode cX7_init 58 = .ok (.ifCond .eq 9, 3) := by decide +kernel
theorem dX7_init_61 : decode cX7_init 61 = .ok (.iload_n 1, 1) := by decide +kernel
theorem dX7_init_62 : decode cX7_init 62 = .ok (.iload_n 2, 1) := by decide +kernel
theorem dX7_init_63 : decode cX7_init 63 = .ok (.imul, 1) := by decide +kernel
theorem dX7_init_64 : decode cX7_init 64 = .ok (.goto 4, 3) := by decide +kernel
theorem dX7_init_67 : decode cX7_init 67 = .ok (.iconst 0, 1) := by decide +kernel
theorem dX7_init_68 : decode cX7_init 68 = .ok (.newarray .int, 2) := by decide +kernel
theorem dX7_init_70 : decode cX7_init 70 = .ok (.putfield 18, 3) := by decide +kernel
theorem dX7_init_73 : decode cX7_init 73 = .ok (.return_, 1) := by decide +kernel
theorem dX7_count_0 : decode cX7_count 0 = .ok (.aload_n 0, 1) := by decide +kernel
theorem dX7_count_1 : decode cX7_count 1 = .ok (.getfield 22, 3) := by decide +kernel
theorem dX7_count_4 : decode cX7_count 4 = .ok (.ireturn, 1) := by decide +kernel
theorem dX7_get_0 : decode cX7_get 0 = .ok (.iload_n 1, 1) := by decide +kernel
theorem dX7_get_1 : decode cX7_get 1 = .ok (.aload_n 0, 1) := by decide +kernel
theorem dX7_get_2 : decode cX7_get 2 = .ok (.getfield 15, 3) := by decide +kernel
theorem dX7_get_5 : decode cX7_get 5 = .ok (.imul, 1) := by decide +kernel
theorem dX7_get_6 : decode cX7_get 6 = .ok (.iload_n 2, 1) := by decide +kernel
theorem dX7_get_7 : decode cX7_get 7 = .ok (.iadd, 1) := by decide +kernel
theorem dX7_get_8 : decode cX7_get 8 = .ok (.istore_n 3, 1) := by decide +kernel
theorem dX7_get_9 : decode cX7_get 9 = .ok (.iload_n 1, 1) := by decide +kernel
theorem dX7_get_10 : decode cX7_get 10 = .ok (.ifCond .lt 27, 3) := by decide +kernel
theorem dX7_get_13 : decode cX7_get 13 = .ok (.iload_n 1, 1) := by decide +kernel
theorem dX7_get_14 : decode cX7_get 14 = .ok (.aload_n 0, 1) := by decide +kernel
theorem dX7_get_15 : decode cX7_get 15 = .ok (.getfield 22, 3) := by decide +kernel
theorem dX7_get_18 : decode cX7_get 18 = .ok (.if_icmp .ge 19, 3) := by decide +kernel
theorem dX7_get_21 : decode cX7_get 21 = .ok (.iload_n 2, 1) := by decide +kernel
theorem dX7_get_22 : decode cX7_get 22 = .ok (.ifCond .lt 15, 3) := by decide +kernel
theorem dX7_get_25 : decode cX7_get 25 = .ok (.iload_n 2, 1) := by decide +kernel
theorem dX7_get_26 : decode cX7_get 26 = .ok (.aload_n 0, 1) := by decide +kernel
theorem dX7_get_27 : decode cX7_get 27 = .ok (.getfield 15, 3) := by decide +kernel
theorem dX7_get_30 : decode cX7_get 30 = .ok (.if_icmp .ge 7, 3) := by decide +kernel
theorem dX7_get_33 : decode cX7_get 33 = .ok (.iconst 1, 1) := by decide +kernel
theorem dX7_get_34 : decode cX7_get 34 = .ok (.goto 4, 3) := by decide +kernel
theorem dX7_get_37 : decode cX7_get 37 = .ok (.iconst 0, 1) := by decide +kernel
theorem dX7_get_38 : decode cX7_get 38 = .ok (.istore 4, 2) := by decide +kernel
theorem dX7_get_40 : decode cX7_get 40 = .ok (.iload 4, 2) := by decide +kernel
theorem dX7_get_42 : decode cX7_get 42 = .ok (.ifCond .eq 25, 3) := by decide +kernel
theorem dX7_get_45 : decode cX7_get 45 = .ok (.iload_n 3, 1) := by decide +kernel
theorem dX7_get_46 : decode cX7_get 46 = .ok (.ifCond .lt 21, 3) := by decide +kernel
theorem dX7_get_49 : decode cX7_get 49 = .ok (.iload_n 3, 1) := by decide +kernel
theorem dX7_get_50 : decode cX7_get 50 = .ok (.aload_n 0, 1) := by decide +kernel
theorem dX7_get_51 : decode cX7_get 51 = .ok (.getfield 18, 3) := by decide +kernel
theorem dX7_get_54 : decode cX7_get 54 = .ok (.arraylength, 1) := by decide +kernel
theorem dX7_get_55 : decode cX7_get 55 = .ok (.if_icmp .ge 12, 3) := by decide +kernel
theorem dX7_get_58 : decode cX7_get 58 = .ok (.aload_n 0, 1) := by decide +kernel
theorem dX7_get_59 : decode cX7_get 59 = .ok (.getfield 18, 3) := by decide +kernel
theorem dX7_get_62 : decode cX7_get 62 = .ok (.iload_n 3, 1) := by decide +kernel
theorem dX7_get_63 : decode cX7_get 63 = .ok (.iaload, 1) := by decide +kernel
theorem dX7_get_64 : decode cX7_get 64 = .ok (.goto 4, 3) := by decide +kernel
theorem dX7_get_67 : decode cX7_get 67 = .ok (.iconst (-1), 1) := by decide +kernel
theorem dX7_get_68 : decode cX7_get 68 = .ok (.ireturn, 1) := by decide +kernel
theorem dX7_put_0 : decode cX7_put 0 = .ok (.iload_n 1, 1) := by decide +kernel
theorem dX7_put_1 : decode cX7_put 1 = .ok (.aload_n 0, 1) := by decide +kernel
theorem dX7_put_2 : decode cX7_put 2 = .ok (.getfield 15, 3) := by decide +kernel
theorem dX7_put_5 : decode cX7_put 5 = .ok (.imul, 1) := by decide +kernel
theorem dX7_put_6 : decode cX7_put 6 = .ok (.iload_n 2, 1) := by decide +kernel
theorem dX7_put_7 : decode cX7_put 7 = .ok (.iadd, 1) := by decide +kernel
theorem dX7_put_8 : decode cX7_put 8 = .ok (.istore 4, 2) := by decide +kernel
theorem dX7_put_10 : decode cX7_put 10 = .ok (.iload_n 1, 1) := by decide +kernel
theorem dX7_put_11 : decode cX7_put 11 = .ok (.ifCond .lt 27, 3) := by decide +kernel
theorem dX7_put_14 : decode cX7_put 14 = .ok (.iload_n 1, 1) := by decide +kernel
theorem dX7_put_15 : decode cX7_put 15 = .ok (.aload_n 0, 1) := by decide +kernel
theorem dX7_put_16 : decode cX7_put 16 = .ok (.getfield 22, 3) := by decide +kernel
theorem dX7_put_19 : decode cX7_put 19 = .ok (.if_icmp .ge 19, 3) := by decide +kernel
theorem dX7_put_22 : decode cX7_put 22 = .ok (.iload_n 2, 1) := by decide +kernel
theorem dX7_put_23 : decode cX7_put 23 = .ok (.ifCond .lt 15, 3) := by decide +kernel
theorem dX7_put_26 : decode cX7_put 26 = .ok (.iload_n 2, 1) := by decide +kernel
theorem dX7_put_27 : decode cX7_put 27 = .ok (.aload_n 0, 1) := by decide +kernel
theorem dX7_put_28 : decode cX7_put 28 = .ok (.getfield 15, 3) := by decide +kernel
theorem dX7_put_31 : decode cX7_put 31 = .ok (.if_icmp .ge 7, 3) := by decide +kernel
theorem dX7_put_34 : decode cX7_put 34 = .ok (.iconst 1, 1) := by decide +kernel
theorem dX7_put_35 : decode cX7_put 35 = .ok (.goto 4, 3) := by decide +kernel
theorem dX7_put_38 : decode cX7_put 38 = .ok (.iconst 0, 1) := by decide +kernel
theorem dX7_put_39 : decode cX7_put 39 = .ok (.istore 5, 2) := by decide +kernel
theorem dX7_put_41 : decode cX7_put 41 = .ok (.iload 5, 2) := by decide +kernel
theorem dX7_put_43 : decode cX7_put 43 = .ok (.ifCond .eq 26, 3) := by decide +kernel
theorem dX7_put_46 : decode cX7_put 46 = .ok (.iload 4, 2) := by decide +kernel
theorem dX7_put_48 : decode cX7_put 48 = .ok (.ifCond .lt 21, 3) := by decide +kernel
theorem dX7_put_51 : decode cX7_put 51 = .ok (.iload 4, 2) := by decide +kernel
theorem dX7_put_53 : decode cX7_put 53 = .ok (.aload_n 0, 1) := by decide +kernel
theorem dX7_put_54 : decode cX7_put 54 = .ok (.getfield 18, 3) := by decide +kernel
theorem dX7_put_57 : decode cX7_put 57 = .ok (.arraylength, 1) := by decide +kernel
theorem dX7_put_58 : decode cX7_put 58 = .ok (.if_icmp .ge 11, 3) := by decide +kernel
theorem dX7_put_61 : decode cX7_put 61 = .ok (.aload_n 0, 1) := by decide +kernel
theorem dX7_put_62 : decode cX7_put 62 = .ok (.getfield 18, 3) := by decide +kernel
theorem dX7_put_65 : decode cX7_put 65 = .ok (.iload 4, 2) := by decide +kernel
theorem dX7_put_67 : decode cX7_put 67 = .ok (.iload_n 3, 1) := by decide +kernel
theorem dX7_put_68 : decode cX7_put 68 = .ok (.iastore, 1) := by decide +kernel
theorem dX7_put_69 : decode cX7_put 69 = .ok (.return_, 1) := by decide +kernel
theorem dX7_add_0 : decode cX7_add 0 = .ok (.aload_n 0, 1) := by decide +kernel
theorem dX7_add_1 : decode cX7_add 1 = .ok (.getfield 22, 3) := by decide +kernel
theorem dX7_add_4 : decode cX7_add 4 = .ok (.aload_n 0, 1) := by decide +kernel
theorem dX7_add_5 : decode cX7_add 5 = .ok (.getfield 9, 3) := by decide +kernel
theorem dX7_add_8 : decode cX7_add 8 = .ok (.if_icmp .lt 5, 3) := by decide +kernel
theorem dX7_add_11 : decode cX7_add 11 = .ok (.iconst (-1), 1) := by decide +kernel
theorem dX7_add_12 : decode cX7_add 12 = .ok (.ireturn, 1) := by decide +kernel
theorem dX7_add_13 : decode cX7_add 13 = .ok (.aload_n 0, 1) := by decide +kernel
theorem dX7_add_14 : decode cX7_add 14 = .ok (.dup, 1) := by decide +kernel
theorem dX7_add_15 : decode cX7_add 15 = .ok (.getfield 22, 3) := by decide +kernel
theorem dX7_add_18 : decode cX7_add 18 = .ok (.iconst 1, 1) := by decide +kernel
theorem dX7_add_19 : decode cX7_add 19 = .ok (.iadd, 1) := by decide +kernel
theorem dX7_add_20 : decode cX7_add 20 = .ok (.putfield 22, 3) := by decide +kernel
theorem dX7_add_23 : decode cX7_add 23 = .ok (.aload_n 0, 1) := by decide +kernel
theorem dX7_add_24 : decode cX7_add 24 = .ok (.getfield 22, 3) := by decide +kernel
theorem dX7_add_27 : decode cX7_add 27 = .ok (.iconst 1, 1) := by decide +kernel
theorem dX7_add_28 : decode cX7_add 28 = .ok (.isub, 1) := by decide +kernel
theorem dX7_add_29 : decode cX7_add 29 = .ok (.ireturn, 1) := by decide +kernel
theorem dX7_clear_0 : decode cX7_clear 0 = .ok (.aload_n 0, 1) := by decide +kernel
theorem dX7_clear_1 : decode cX7_clear 1 = .ok (.iconst 0, 1) := by decide +kernel
theorem dX7_clear_2 : decode cX7_clear 2 = .ok (.putfield 22, 3) := by decide +kernel
theorem dX7_clear_5 : decode cX7_clear 5 = .ok (.return_, 1) := by decide +kernel
theorem dX7_copyFrom_0 : decode cX7_copyFrom 0 = .ok (.aload_n 1, 1) := by decide +kernel
theorem dX7_copyFrom_1 : decode cX7_copyFrom 1 = .ok (.getfield 22, 3) := by decide +kernel
theorem dX7_copyFrom_4 : decode cX7_copyFrom 4 = .ok (.aload_n 1, 1) := by decide +kernel
theorem dX7_copyFrom_5 : decode cX7_copyFrom 5 = .ok (.getfield 15, 3) := by decide +kernel
theorem dX7_copyFrom_8 : decode cX7_copyFrom 8 = .ok (.imul, 1) := by decide +kernel
theorem dX7_copyFrom_9 : decode cX7_copyFrom 9 = .ok (.istore_n 2, 1) := by decide +kernel
theorem dX7_copyFrom_10 : decode cX7_copyFrom 10 = .ok (.iload_n 2, 1) := by decide +kernel
theorem dX7_copyFrom_11 : decode cX7_copyFrom 11 = .ok (.ifCond .lt 43, 3) := by decide +kernel
theorem dX7_copyFrom_14 : decode cX7_copyFrom 14 = .ok (.iload_n 2, 1) := by decide +kernel
theorem dX7_copyFrom_15 : decode cX7_copyFrom 15 = .ok (.aload_n 0, 1) := by decide +kernel
theorem dX7_copyFrom_16 : decode cX7_copyFrom 16 = .ok (.getfield 18, 3) := by decide +kernel
theorem dX7_copyFrom_19 : decode cX7_copyFrom 19 = .ok (.arraylength, 1) := by decide +kernel
theorem dX7_copyFrom_20 : decode cX7_copyFrom 20 = .ok (.if_icmp .gt 34, 3) := by decide +kernel
theorem dX7_copyFrom_23 : decode cX7_copyFrom 23 = .ok (.iload_n 2, 1) := by decide +kernel
theorem dX7_copyFrom_24 : decode cX7_copyFrom 24 = .ok (.aload_n 1, 1) := by decide +kernel
theorem dX7_copyFrom_25 : decode cX7_copyFrom 25 = .ok (.getfield 18, 3) := by decide +kernel
theorem dX7_copyFrom_28 : decode cX7_copyFrom 28 = .ok (.arraylength, 1) := by decide +kernel
theorem dX7_copyFrom_29 : decode cX7_copyFrom 29 = .ok (.if_icmp .gt 25, 3) := by decide +kernel
theorem dX7_copyFrom_32 : decode cX7_copyFrom 32 = .ok (.aload_n 1, 1) := by decide +kernel
theorem dX7_copyFrom_33 : decode cX7_copyFrom 33 = .ok (.getfield 18, 3) := by decide +kernel
theorem dX7_copyFrom_36 : decode cX7_copyFrom 36 = .ok (.iconst 0, 1) := by decide +kernel
theorem dX7_copyFrom_37 : decode cX7_copyFrom 37 = .ok (.aload_n 0, 1) := by decide +kernel
theorem dX7_copyFrom_38 : decode cX7_copyFrom 38 = .ok (.getfield 18, 3) := by decide +kernel
theorem dX7_copyFrom_41 : decode cX7_copyFrom 41 = .ok (.iconst 0, 1) := by decide +kernel
theorem dX7_copyFrom_42 : decode cX7_copyFrom 42 = .ok (.iload_n 2, 1) := by decide +kernel
theorem dX7_copyFrom_43 : decode cX7_copyFrom 43 = .ok (.invokestatic 25, 3) := by decide +kernel
theorem dX7_copyFrom_46 : decode cX7_copyFrom 46 = .ok (.aload_n 0, 1) := by decide +kernel
theorem dX7_copyFrom_47 : decode cX7_copyFrom 47 = .ok (.aload_n 1, 1) := by decide +kernel
theorem dX7_copyFrom_48 : decode cX7_copyFrom 48 = .ok (.getfield 22, 3) := by decide +kernel
theorem dX7_copyFrom_51 : decode cX7_copyFrom 51 = .ok (.putfield 22, 3) := by decide +kernel
theorem dX7_copyFrom_54 : decode cX7_copyFrom 54 = .ok (.return_, 1) := by decide +kernel
theorem dX8_init_0 : decode cX8_init 0 = .ok (.aload_n 0, 1) := by decide +kernel
theorem dX8_init_1 : decode cX8_init 1 = .ok (.invokespecial 3, 3) := by decide +kernel
theorem dX8_init_4 : decode cX8_init 4 = .ok (.aload_n 0, 1) := by decide +kernel
theorem dX8_init_5 : decode cX8_init 5 = .ok (.aload_n 1, 1) := by decide +kernel
theorem dX8_init_6 : decode cX8_init 6 = .ok (.putfield 9, 3) := by decide +kernel
theorem dX8_init_9 : decode cX8_init 9 = .ok (.return_, 1) := by decide +kernel
theorem dX8_open_0 : decode cX8_open 0 = .ok (.aload_n 0, 1) := by decide +kernel
theorem dX8_open_1 : decode cX8_open 1 = .ok (.iload_n 1, 1) := by decide +kernel
theorem dX8_open_2 : decode cX8_open 2 = .ok (.ifCond .ge 7, 3) := by decide +kernel
theorem dX8_open_5 : decode cX8_open 5 = .ok (.iconst 0, 1) := by decide +kernel
theorem dX8_open_6 : decode cX8_open 6 = .ok (.goto 12, 3) := by decide +kernel
theorem dX8_open_9 : decode cX8_open 9 = .ok (.iload_n 1, 1) := by decide +kernel
theorem dX8_open_10 : decode cX8_open 10 = .ok (.aload_n 0, 1) := by decide +kernel
theorem dX8_open_11 : decode cX8_open 11 = .ok (.getfield 9, 3) := by decide +kernel
theorem dX8_open_14 : decode cX8_open 14 = .ok (.arraylength, 1) := by decide +kernel
theorem dX8_open_15 : decode cX8_open 15 = .ok (.invokestatic 15, 3) := by decide +kernel
theorem dX8_open_18 : decode cX8_open 18 = .ok (.putfield 21, 3) := by decide +kernel
theorem dX8_open_21 : decode cX8_open 21 = .ok (.aload_n 0, 1) := by decide +kernel
theorem dX8_open_22 : decode cX8_open 22 = .ok (.iconst 0, 1) := by decide +kernel
theorem dX8_open_23 : decode cX8_open 23 = .ok (.putfield 25, 3) := by decide +kernel
theorem dX8_open_26 : decode cX8_open 26 = .ok (.aload_n 0, 1) := by decide +kernel
theorem dX8_open_27 : decode cX8_open 27 = .ok (.iconst 0, 1) := by decide +kernel
theorem dX8_open_28 : decode cX8_open 28 = .ok (.putfield 28, 3) := by decide +kernel
theorem dX8_open_31 : decode cX8_open 31 = .ok (.aload_n 0, 1) := by decide +kernel
theorem dX8_open_32 : decode cX8_open 32 = .ok (.iconst 0, 1) := by decide +kernel
theorem dX8_open_33 : decode cX8_open 33 = .ok (.putfield 31, 3) := by decide +kernel
theorem dX8_open_36 : decode cX8_open 36 = .ok (.aload_n 0, 1) := by decide +kernel
theorem dX8_open_37 : decode cX8_open 37 = .ok (.iconst 0, 1) := by decide +kernel
theorem dX8_open_38 : decode cX8_open 38 = .ok (.putfield 34, 3) := by decide +kernel
theorem dX8_open_41 : decode cX8_open 41 = .ok (.aload_n 0, 1) := by decide +kernel
theorem dX8_open_42 : decode cX8_open 42 = .ok (.iconst 0, 1) := by decide +kernel
theorem dX8_open_43 : decode cX8_open 43 = .ok (.putfield 37, 3) := by decide +kernel
theorem dX8_open_46 : decode cX8_open 46 = .ok (.aload_n 0, 1) := by decide +kernel
theorem dX8_open_47 : decode cX8_open 47 = .ok (.iconst (-1), 1) := by decide +kernel
theorem dX8_open_48 : decode cX8_open 48 = .ok (.putfield 40, 3) := by decide +kernel
theorem dX8_open_51 : decode cX8_open 51 = .ok (.return_, 1) := by decide +kernel
theorem dX8_fail_0 : decode cX8_fail 0 = .ok (.aload_n 0, 1) := by decide +kernel
theorem dX8_fail_1 : decode cX8_fail 1 = .ok (.getfield 37, 3) := by decide +kernel
theorem dX8_fail_4 : decode cX8_fail 4 = .ok (.ifCond .ne 16, 3) := by decide +kernel
theorem dX8_fail_7 : decode cX8_fail 7 = .ok (.aload_n 0, 1) := by decide +kernel
theorem dX8_fail_8 : decode cX8_fail 8 = .ok (.iload_n 1, 1) := by decide +kernel
theorem dX8_fail_9 : decode cX8_fail 9 = .ok (.putfield 37, 3) := by decide +kernel
theorem dX8_fail_12 : decode cX8_fail 12 = .ok (.aload_n 0, 1) := by decide +kernel
theorem dX8_fail_13 : decode cX8_fail 13 = .ok (.aload_n 0, 1) := by decide +kernel
theorem dX8_fail_14 : decode cX8_fail 14 = .ok (.getfield 25, 3) := by decide +kernel
theorem dX8_fail_17 : decode cX8_fail 17 = .ok (.putfield 40, 3) := by decide +kernel
theorem dX8_fail_20 : decode cX8_fail 20 = .ok (.return_, 1) := by decide +kernel
theorem dX8_sound_0 : decode cX8_sound 0 = .ok (.aload_n 0, 1) := by decide +kernel
theorem dX8_sound_1 : decode cX8_sound 1 = .ok (.getfield 37, 3) := by decide +kernel
theorem dX8_sound_4 : decode cX8_sound 4 = .ok (.ifCond .ne 7, 3) := by decide +kernel
theorem dX8_sound_7 : decode cX8_sound 7 = .ok (.iconst 1, 1) := by decide +kernel
theorem dX8_sound_8 : decode cX8_sound 8 = .ok (.goto 4, 3) := by decide +kernel
theorem dX8_sound_11 : decode cX8_sound 11 = .ok (.iconst 0, 1) := by decide +kernel
theorem dX8_sound_12 : decode cX8_sound 12 = .ok (.ireturn, 1) := by decide +kernel
theorem dX8_errorCode_0 : decode cX8_errorCode 0 = .ok (.aload_n 0, 1) := by decide +kernel
theorem dX8_errorCode_1 : decode cX8_errorCode 1 = .ok (.getfield 37, 3) := by decide +kernel
theorem dX8_errorCode_4 : decode cX8_errorCode 4 = .ok (.ireturn, 1) := by decide +kernel
theorem dX8_errorPlace_0 : decode cX8_errorPlace 0 = .ok (.aload_n 0, 1) := by decide +kernel
theorem dX8_errorPlace_1 : decode cX8_errorPlace 1 = .ok (.getfield 40, 3) := by decide +kernel
theorem dX8_errorPlace_4 : decode cX8_errorPlace 4 = .ok (.ireturn, 1) := by decide +kernel
theorem dX8_next_0 : decode cX8_next 0 = .ok (.aload_n 0, 1) := by decide +kernel
theorem dX8_next_1 : decode cX8_next 1 = .ok (.aload_n 0, 1) := by decide +kernel
theorem dX8_next_2 : decode cX8_next 2 = .ok (.getfield 28, 3) := by decide +kernel
theorem dX8_next_5 : decode cX8_next 5 = .ok (.putfield 25, 3) := by decide +kernel
theorem dX8_next_8 : decode cX8_next 8 = .ok (.aload_n 0, 1) := by decide +kernel
theorem dX8_next_9 : decode cX8_next 9 = .ok (.getfield 25, 3) := by decide +kernel
theorem dX8_next_12 : decode cX8_next 12 = .ok (.aload_n 0, 1) := by decide +kernel
theorem dX8_next_13 : decode cX8_next 13 = .ok (.getfield 21, 3) := by decide +kernel
theorem dX8_next_16 : decode cX8_next 16 = .ok (.if_icmp .ge 27, 3) := by decide +kernel
theorem dX8_next_19 : decode cX8_next 19 = .ok (.aload_n 0, 1) := by decide +kernel
theorem dX8_next_20 : decode cX8_next 20 = .ok (.aload_n 0, 1) := by decide +kernel
theorem dX8_next_21 : decode cX8_next 21 = .ok (.getfield 25, 3) := by decide +kernel
theorem dX8_next_24 : decode cX8_next 24 = .ok (.invokevirtual 43, 3) := by decide +kernel
theorem dX8_next_27 : decode cX8_next 27 = .ok (.ifCond .ne 16, 3) := by decide +kernel
theorem dX8_next_30 : decode cX8_next 30 = .ok (.aload_n 0, 1) := by decide +kernel
theorem dX8_next_31 : decode cX8_next 31 = .ok (.dup, 1) := by decide +kernel
theorem dX8_next_32 : decode cX8_next 32 = .ok (.getfield 25, 3) := by decide +kernel
theorem dX8_next_35 : decode cX8_next 35 = .ok (.iconst 1, 1) := by decide +kernel
theorem dX8_next_36 : decode cX8_next 36 = .ok (.iadd, 1) := by decide +kernel
theorem dX8_next_37 : decode cX8_next 37 = .ok (.putfield 25, 3) := by decide +kernel
theorem dX8_next_40 : decode cX8_next 40 = .ok (.goto (-32), 3) := by decide +kernel
theorem dX8_next_43 : decode cX8_next 43 = .ok (.aload_n 0, 1) := by decide +kernel
theorem dX8_next_44 : decode cX8_next 44 = .ok (.aload_n 0, 1) := by decide +kernel
theorem dX8_next_45 : decode cX8_next 45 = .ok (.aload_n 0, 1) := by decide +kernel
theorem dX8_next_46 : decode cX8_next 46 = .ok (.getfield 25, 3) := by decide +kernel
theorem dX8_next_49 : decode cX8_next 49 = .ok (.invokevirtual 43, 3) := by decide +kernel
theorem dX8_next_52 : decode cX8_next 52 = .ok (.putfield 31, 3) := by decide +kernel
theorem dX8_next_55 : decode cX8_next 55 = .ok (.aload_n 0, 1) := by decide +kernel
theorem dX8_next_56 : decode cX8_next 56 = .ok (.iconst 0, 1) := by decide +kernel
theorem dX8_next_57 : decode cX8_next 57 = .ok (.putfield 34, 3) := by decide +kernel
theorem dX8_next_60 : decode cX8_next 60 = .ok (.aload_n 0, 1) := by decide +kernel
theorem dX8_next_61 : decode cX8_next 61 = .ok (.aload_n 0, 1) := by decide +kernel
theorem dX8_next_62 : decode cX8_next 62 = .ok (.getfield 25, 3) := by decide +kernel
theorem dX8_next_65 : decode cX8_next 65 = .ok (.aload_n 0, 1) := by decide +kernel
theorem dX8_next_66 : decode cX8_next 66 = .ok (.getfield 21, 3) := by decide +kernel
theorem dX8_next_69 : decode cX8_next 69 = .ok (.if_icmp .ge 12, 3) := by decide +kernel
theorem dX8_next_72 : decode cX8_next 72 = .ok (.aload_n 0, 1) := by decide +kernel
theorem dX8_next_73 : decode cX8_next 73 = .ok (.getfield 25, 3) := by decide +kernel
theorem dX8_next_76 : decode cX8_next 76 = .ok (.iconst 1, 1) := by decide +kernel
theorem dX8_next_77 : decode cX8_next 77 = .ok (.iadd, 1) := by decide +kernel
theorem dX8_next_78 : decode cX8_next 78 = .ok (.goto 7, 3) := by decide +kernel
theorem dX8_next_81 : decode cX8_next 81 = .ok (.aload_n 0, 1) := by decide +kernel
theorem dX8_next_82 : decode cX8_next 82 = .ok (.getfield 21, 3) := by decide +kernel
theorem dX8_next_85 : decode cX8_next 85 = .ok (.putfield 28, 3) := by decide +kernel
theorem dX8_next_88 : decode cX8_next 88 = .ok (.aload_n 0, 1) := by decide +kernel
theorem dX8_next_89 : decode cX8_next 89 = .ok (.getfield 31, 3) := by decide +kernel
theorem dX8_next_92 : decode cX8_next 92 = .ok (.iconst 2, 1) := by decide +kernel
theorem dX8_next_93 : decode cX8_next 93 = .ok (.if_icmp .ne 15, 3) := by decide +kernel
theorem dX8_next_96 : decode cX8_next 96 = .ok (.aload_n 0, 1) := by decide +kernel
theorem dX8_next_97 : decode cX8_next 97 = .ok (.aload_n 0, 1) := by decide +kernel
theorem dX8_next_98 : decode cX8_next 98 = .ok (.aload_n 0, 1) := by decide +kernel
theorem dX8_next_99 : decode cX8_next 99 = .ok (.getfield 25, 3) := by decide +kernel
theorem dX8_next_102 : decode cX8_next 102 = .ok (.invokevirtual 47, 3) := by decide +kernel
theorem dX8_next_105 : decode cX8_next 105 = .ok (.putfield 34, 3) := by decide +kernel
theorem dX8_next_108 : decode cX8_next 108 = .ok (.aload_n 0, 1) := by decide +kernel
theorem dX8_next_109 : decode cX8_next 109 = .ok (.getfield 28, 3) := by decide +kernel
theorem dX8_next_112 : decode cX8_next 112 = .ok (.aload_n 0, 1) := by decide +kernel
theorem dX8_next_113 : decode cX8_next 113 = .ok (.getfield 21, 3) := by decide +kernel
theorem dX8_next_116 : decode cX8_next 116 = .ok (.if_icmp .ge 72, 3) := by decide +kernel
theorem dX8_next_119 : decode cX8_next 119 = .ok (.aload_n 0, 1) := by decide +kernel
theorem dX8_next_120 : decode cX8_next 120 = .ok (.getfield 31, 3) := by decide +kernel
theorem dX8_next_123 : decode cX8_next 123 = .ok (.iconst 3, 1) := by decide +kernel
theorem dX8_next_124 : decode cX8_next 124 = .ok (.if_icmp .eq 64, 3) := by decide +kernel
theorem dX8_next_127 : decode cX8_next 127 = .ok (.aload_n 0, 1) := by decide +kernel
theorem dX8_next_128 : decode cX8_next 128 = .ok (.aload_n 0, 1) := by decide +kernel
theorem dX8_next_129 : decode cX8_next 129 = .ok (.getfield 28, 3) := by decide +kernel
theorem dX8_next_132 : decode cX8_next 132 = .ok (.invokevirtual 43, 3) := by decide +kernel
theorem dX8_next_135 : decode cX8_next 135 = .ok (.aload_n 0, 1) := by decide +kernel
theorem dX8_next_136 : decode cX8_next 136 = .ok (.getfield 31, 3) := by decide +kernel
theorem dX8_next_139 : decode cX8_next 139 = .ok (.if_icmp .ne 49, 3) := by decide +kernel
theorem dX8_next_142 : decode cX8_next 142 = .ok (.aload_n 0, 1) := by decide +kernel
theorem dX8_next_143 : decode cX8_next 143 = .ok (.getfield 31, 3) := by decide +kernel
theorem dX8_next_146 : decode cX8_next 146 = .ok (.iconst 2, 1) := by decide +kernel
theorem dX8_next_147 : decode cX8_next 147 = .ok (.if_icmp .ne 28, 3) := by decide +kernel
theorem dX8_next_150 : decode cX8_next 150 = .ok (.aload_n 0, 1) := by decide +kernel
theorem dX8_next_151 : decode cX8_next 151 = .ok (.bipush 10, 2) := by decide +kernel
theorem dX8_next_153 : decode cX8_next 153 = .ok (.aload_n 0, 1) := by decide +kernel
theorem dX8_next_154 : decode cX8_next 154 = .ok (.getfield 34, 3) := by decide +kernel
theorem dX8_next_157 : decode cX8_next 157 = .ok (.imul, 1) := by decide +kernel
theorem dX8_next_158 : decode cX8_next 158 = .ok (.aload_n 0, 1) := by decide +kernel
theorem dX8_next_159 : decode cX8_next 159 = .ok (.aload_n 0, 1) := by decide +kernel
theorem dX8_next_160 : decode cX8_next 160 = .ok (.getfield 28, 3) := by decide +kernel
theorem dX8_next_163 : decode cX8_next 163 = .ok (.invokevirtual 47, 3) := by decide +kernel
theorem dX8_next_166 : decode cX8_next 166 = .ok (.iadd, 1) := by decide +kernel
theorem dX8_next_167 : decode cX8_next 167 = .ok (.ldc 50, 2) := by decide +kernel
theorem dX8_next_169 : decode cX8_next 169 = .ok (.invokestatic 15, 3) := by decide +kernel
theorem dX8_next_172 : decode cX8_next 172 = .ok (.putfield 34, 3) := by decide +kernel
theorem dX8_next_175 : decode cX8_next 175 = .ok (.aload_n 0, 1) := by decide +kernel
theorem dX8_next_176 : decode cX8_next 176 = .ok (.dup, 1) := by decide +kernel
theorem dX8_next_177 : decode cX8_next 177 = .ok (.getfield 28, 3) := by decide +kernel
theorem dX8_next_180 : decode cX8_next 180 = .ok (.iconst 1, 1) := by decide +kernel
theorem dX8_next_181 : decode cX8_next 181 = .ok (.iadd, 1) := by decide +kernel
theorem dX8_next_182 : decode cX8_next 182 = .ok (.putfield 28, 3) := by decide +kernel
theorem dX8_next_185 : decode cX8_next 185 = .ok (.goto (-77), 3) := by decide +kernel
theorem dX8_next_188 : decode cX8_next 188 = .ok (.return_, 1) := by decide +kernel
theorem dX8_kindAt_0 : decode cX8_kindAt 0 = .ok (.iload_n 1, 1) := by decide +kernel
theorem dX8_kindAt_1 : decode cX8_kindAt 1 = .ok (.ifCond .lt 29, 3) := by decide +kernel
theorem dX8_kindAt_4 : decode cX8_kindAt 4 = .ok (.iload_n 1, 1) := by decide +kernel
theorem dX8_kindAt_5 : decode cX8_kindAt 5 = .ok (.aload_n 0, 1) := by decide +kernel
theorem dX8_kindAt_6 : decode cX8_kindAt 6 = .ok (.getfield 21, 3) := by decide +kernel
theorem dX8_kindAt_9 : decode cX8_kindAt 9 = .ok (.if_icmp .ge 21, 3) := by decide +kernel
theorem dX8_kindAt_12 : decode cX8_kindAt 12 = .ok (.iload_n 1, 1) := by decide +kernel
theorem dX8_kindAt_13 : decode cX8_kindAt 13 = .ok (.aload_n 0, 1) := by decide +kernel
theorem dX8_kindAt_14 : decode cX8_kindAt 14 = .ok (.getfield 9, 3) := by decide +kernel
theorem dX8_kindAt_17 : decode cX8_kindAt 17 = .ok (.arraylength, 1) := by decide +kernel
theorem dX8_kindAt_18 : decode cX8_kindAt 18 = .ok (.if_icmp .ge 12, 3) := by decide +kernel
theorem dX8_kindAt_21 : decode cX8_kindAt 21 = .ok (.aload_n 0, 1) := by decide +kernel
theorem dX8_kindAt_22 : decode cX8_kindAt 22 = .ok (.getfield 9, 3) := by decide +kernel
theorem dX8_kindAt_25 : decode cX8_kindAt 25 = .ok (.iload_n 1, 1) := by decide +kernel
theorem dX8_kindAt_26 : decode cX8_kindAt 26 = .ok (.iaload, 1) := by decide +kernel
theorem dX8_kindAt_27 : decode cX8_kindAt 27 = .ok (.goto 5, 3) := by decide +kernel
theorem dX8_kindAt_30 : decode cX8_kindAt 30 = .ok (.bipush 32, 2) := by decide +kernel
theorem dX8_kindAt_32 : decode cX8_kindAt 32 = .ok (.istore_n 2, 1) := by decide +kernel
theorem dX8_kindAt_33 : decode cX8_kindAt 33 = .ok (.iload_n 2, 1) := by decide +kernel
theorem dX8_kindAt_34 : decode cX8_kindAt 34 = .ok (.bipush 32, 2) := by decide +kernel
theorem dX8_kindAt_36 : decode cX8_kindAt 36 = .ok (.if_icmp .eq 9, 3) := by decide +kernel
theorem dX8_kindAt_39 : decode cX8_kindAt 39 = .ok (.iload_n 2, 1) := by decide +kernel
theorem dX8_kindAt_40 : decode cX8_kindAt 40 = .ok (.bipush 10, 2) := by decide +kernel
theorem dX8_kindAt_42 : decode cX8_kindAt 42 = .ok (.if_icmp .ne 5, 3) := by decide +kernel
theorem dX8_kindAt_45 : decode cX8_kindAt 45 = .ok (.iconst 0, 1) := by decide +kernel
theorem dX8_kindAt_46 : decode cX8_kindAt 46 = .ok (.ireturn, 1) := by decide +kernel
theorem dX8_kindAt_47 : decode cX8_kindAt 47 = .ok (.iload_n 2, 1) := by decide +kernel
theorem dX8_kindAt_48 : decode cX8_kindAt 48 = .ok (.bipush 97, 2) := by decide +kernel
theorem dX8_kindAt_50 : decode cX8_kindAt 50 = .ok (.if_icmp .lt 11, 3) := by decide +kernel
theorem dX8_kindAt_53 : decode cX8_kindAt 53 = .ok (.iload_n 2, 1) := by decide +kernel
theorem dX8_kindAt_54 : decode cX8_kindAt 54 = .ok (.bipush 122, 2) := by decide +kernel
theorem dX8_kindAt_56 : decode cX8_kindAt 56 = .ok (.if_icmp .gt 5, 3) := by decide +kernel
theorem dX8_kindAt_59 : decode cX8_kindAt 59 = .ok (.iconst 1, 1) := by decide +kernel
theorem dX8_kindAt_60 : decode cX8_kindAt 60 = .ok (.ireturn, 1) := by decide +kernel
theorem dX8_kindAt_61 : decode cX8_kindAt 61 = .ok (.iload_n 2, 1) := by decide +kernel
theorem dX8_kindAt_62 : decode cX8_kindAt 62 = .ok (.bipush 48, 2) := by decide +kernel
theorem dX8_kindAt_64 : decode cX8_kindAt 64 = .ok (.if_icmp .lt 13, 3) := by decide +kernel
theorem dX8_kindAt_67 : decode cX8_kindAt 67 = .ok (.iload_n 2, 1) := by decide +kernel
theorem dX8_kindAt_68 : decode cX8_kindAt 68 = .ok (.bipush 57, 2) := by decide +kernel
theorem dX8_kindAt_70 : decode cX8_kindAt 70 = .ok (.if_icmp .gt 7, 3) := by decide +kernel
theorem dX8_kindAt_73 : decode cX8_kindAt 73 = .ok (.iconst 2, 1) := by decide +kernel
theorem dX8_kindAt_74 : decode cX8_kindAt 74 = .ok (.goto 4, 3) := by decide +kernel
theorem dX8_kindAt_77 : decode cX8_kindAt 77 = .ok (.iconst 3, 1) := by decide +kernel
theorem dX8_kindAt_78 : decode cX8_kindAt 78 = .ok (.ireturn, 1) := by decide +kernel
theorem dX8_digitAt_0 : decode cX8_digitAt 0 = .ok (.iload_n 1, 1) := by decide +kernel
theorem dX8_digitAt_1 : decode cX8_digitAt 1 = .ok (.ifCond .lt 24, 3) := by decide +kernel
theorem dX8_digitAt_4 : decode cX8_digitAt 4 = .ok (.iload_n 1, 1) := by decide +kernel
theorem dX8_digitAt_5 : decode cX8_digitAt 5 = .ok (.aload_n 0, 1) := by decide +kernel
theorem dX8_digitAt_6 : decode cX8_digitAt 6 = .ok (.getfield 9, 3) := by decide +kernel
theorem dX8_digitAt_9 : decode cX8_digitAt 9 = .ok (.arraylength, 1) := by decide +kernel
theorem dX8_digitAt_10 : decode cX8_digitAt 10 = .ok (.if_icmp .ge 15, 3) := by decide +kernel
theorem dX8_digitAt_13 : decode cX8_digitAt 13 = .ok (.aload_n 0, 1) := by decide +kernel
theorem dX8_digitAt_14 : decode cX8_digitAt 14 = .ok (.getfield 9, 3) := by decide +kernel
theorem dX8_digitAt_17 : decode cX8_digitAt 17 = .ok (.iload_n 1, 1) := by decide +kernel
theorem dX8_digitAt_18 : decode cX8_digitAt 18 = .ok (.iaload, 1) := by decide +kernel
theorem dX8_digitAt_19 : decode cX8_digitAt 19 = .ok (.bipush 48, 2) := by decide +kernel
theorem dX8_digitAt_21 : decode cX8_digitAt 21 = .ok (.isub, 1) := by decide +kernel
theorem dX8_digitAt_22 : decode cX8_digitAt 22 = .ok (.goto 4, 3) := by decide +kernel
theorem dX8_digitAt_25 : decode cX8_digitAt 25 = .ok (.iconst 0, 1) := by decide +kernel
theorem dX8_digitAt_26 : decode cX8_digitAt 26 = .ok (.ireturn, 1) := by decide +kernel
theorem dX8_atEnd_0 : decode cX8_atEnd 0 = .ok (.aload_n 0, 1) := by decide +kernel
theorem dX8_atEnd_1 : decode cX8_atEnd 1 = .ok (.getfield 31, 3) := by decide +kernel
theorem dX8_atEnd_4 : decode cX8_atEnd 4 = .ok (.ifCond .ne 7, 3) := by decide +kernel
theorem dX8_atEnd_7 : decode cX8_atEnd 7 = .ok (.iconst 1, 1) := by decide +kernel
theorem dX8_atEnd_8 : decode cX8_atEnd 8 = .ok (.goto 4, 3) := by decide +kernel
theorem dX8_atEnd_11 : decode cX8_atEnd 11 = .ok (.iconst 0, 1) := by decide +kernel
theorem dX8_atEnd_12 : decode cX8_atEnd 12 = .ok (.ireturn, 1) := by decide +kernel
theorem dX8_isNumber_0 : decode cX8_isNumber 0 = .ok (.aload_n 0, 1) := by decide +kernel
theorem dX8_isNumber_1 : decode cX8_isNumber 1 = .ok (.getfield 31, 3) := by decide +kernel
theorem dX8_isNumber_4 : decode cX8_isNumber 4 = .ok (.iconst 2, 1) := by decide +kernel
theorem dX8_isNumber_5 : decode cX8_isNumber 5 = .ok (.if_icmp .ne 7, 3) := by decide +kernel
theorem dX8_isNumber_8 : decode cX8_isNumber 8 = .ok (.iconst 1, 1) := by decide +kernel
theorem dX8_isNumber_9 : decode cX8_isNumber 9 = .ok (.goto 4, 3) := by decide +kernel
theorem dX8_isNumber_12 : decode cX8_isNumber 12 = .ok (.iconst 0, 1) := by decide +kernel
theorem dX8_isNumber_13 : decode cX8_isNumber 13 = .ok (.ireturn, 1) := by decide +kernel
theorem dX8_value_0 : decode cX8_value 0 = .ok (.aload_n 0, 1) := by decide +kernel
theorem dX8_value_1 : decode cX8_value 1 = .ok (.getfield 34, 3) := by decide +kernel
theorem dX8_value_4 : decode cX8_value 4 = .ok (.ireturn, 1) := by decide +kernel
theorem dX8_isSign_0 : decode cX8_isSign 0 = .ok (.aload_n 0, 1) := by decide +kernel
theorem dX8_isSign_1 : decode cX8_isSign 1 = .ok (.getfield 31, 3) := by decide +kernel
theorem dX8_isSign_4 : decode cX8_isSign 4 = .ok (.iconst 3, 1) := by decide +kernel
theorem dX8_isSign_5 : decode cX8_isSign 5 = .ok (.if_icmp .ne 39, 3) := by decide +kernel
theorem dX8_isSign_8 : decode cX8_isSign 8 = .ok (.aload_n 0, 1) := by decide +kernel
theorem dX8_isSign_9 : decode cX8_isSign 9 = .ok (.getfield 25, 3) := by decide +kernel
theorem dX8_isSign_12 : decode cX8_isSign 12 = .ok (.ifCond .lt 32, 3) := by decide +kernel
theorem dX8_isSign_15 : decode cX8_isSign 15 = .ok (.aload_n 0, 1) := by decide +kernel
theorem dX8_isSign_16 : decode cX8_isSign 16 = .ok (.getfield 25, 3) := by decide +kernel
theorem dX8_isSign_19 : decode cX8_isSign 19 = .ok (.aload_n 0, 1) := by decide +kernel
theorem dX8_isSign_20 : decode cX8_isSign 20 = .ok (.getfield 9, 3) := by decide +kernel
theorem dX8_isSign_23 : decode cX8_isSign 23 = .ok (.arraylength, 1) := by decide +kernel
theorem dX8_isSign_24 : decode cX8_isSign 24 = .ok (.if_icmp .ge 20, 3) := by decide +kernel
theorem dX8_isSign_27 : decode cX8_isSign 27 = .ok (.aload_n 0, 1) := by decide +kernel
theorem dX8_isSign_28 : decode cX8_isSign 28 = .ok (.getfield 9, 3) := by decide +kernel
theorem dX8_isSign_31 : decode cX8_isSign 31 = .ok (.aload_n 0, 1) := by decide +kernel
theorem dX8_isSign_32 : decode cX8_isSign 32 = .ok (.getfield 25, 3) := by decide +kernel
theorem dX8_isSign_35 : decode cX8_isSign 35 = .ok (.iaload, 1) := by decide +kernel
theorem dX8_isSign_36 : decode cX8_isSign 36 = .ok (.iload_n 1, 1) := by decide +kernel
theorem dX8_isSign_37 : decode cX8_isSign 37 = .ok (.if_icmp .ne 7, 3) := by decide +kernel
theorem dX8_isSign_40 : decode cX8_isSign 40 = .ok (.iconst 1, 1) := by decide +kernel
theorem dX8_isSign_41 : decode cX8_isSign 41 = .ok (.goto 4, 3) := by decide +kernel
theorem dX8_isSign_44 : decode cX8_isSign 44 = .ok (.iconst 0, 1) := by decide +kernel
theorem dX8_isSign_45 : decode cX8_isSign 45 = .ok (.ireturn, 1) := by decide +kernel
theorem dX8_isWord_0 : decode cX8_isWord 0 = .ok (.aload_n 1, 1) := by decide +kernel
theorem dX8_isWord_1 : decode cX8_isWord 1 = .ok (.invokevirtual 51, 3) := by decide +kernel
theorem dX8_isWord_4 : decode cX8_isWord 4 = .ok (.istore_n 2, 1) := by decide +kernel
theorem dX8_isWord_5 : decode cX8_isWord 5 = .ok (.aload_n 0, 1) := by decide +kernel
theorem dX8_isWord_6 : decode cX8_isWord 6 = .ok (.getfield 31, 3) := by decide +kernel
theorem dX8_isWord_9 : decode cX8_isWord 9 = .ok (.iconst 1, 1) := by decide +kernel
theorem dX8_isWord_10 : decode cX8_isWord 10 = .ok (.if_icmp .ne 35, 3) := by decide +kernel
theorem dX8_isWord_13 : decode cX8_isWord 13 = .ok (.aload_n 0, 1) := by decide +kernel
theorem dX8_isWord_14 : decode cX8_isWord 14 = .ok (.getfield 28, 3) := by decide +kernel
theorem dX8_isWord_17 : decode cX8_isWord 17 = .ok (.aload_n 0, 1) := by decide +kernel
theorem dX8_isWord_18 : decode cX8_isWord 18 = .ok (.getfield 25, 3) := by decide +kernel
theorem dX8_isWord_21 : decode cX8_isWord 21 = .ok (.isub, 1) := by decide +kernel
theorem dX8_isWord_22 : decode cX8_isWord 22 = .ok (.iload_n 2, 1) := by decide +kernel
theorem dX8_isWord_23 : decode cX8_isWord 23 = .ok (.if_icmp .ne 22, 3) := by decide +kernel
theorem dX8_isWord_26 : decode cX8_isWord 26 = .ok (.aload_n 0, 1) := by decide +kernel
theorem dX8_isWord_27 : decode cX8_isWord 27 = .ok (.getfield 25, 3) := by decide +kernel
theorem dX8_isWord_30 : decode cX8_isWord 30 = .ok (.ifCond .lt 15, 3) := by decide +kernel
theorem dX8_isWord_33 : decode cX8_isWord 33 = .ok (.aload_n 0, 1) := by decide +kernel
theorem dX8_isWord_34 : decode cX8_isWord 34 = .ok (.getfield 28, 3) := by decide +kernel
theorem dX8_isWord_37 : decode cX8_isWord 37 = .ok (.aload_n 0, 1) := by decide +kernel
theorem dX8_isWord_38 : decode cX8_isWord 38 = .ok (.getfield 9, 3) := by decide +kernel
theorem dX8_isWord_41 : decode cX8_isWord 41 = .ok (.arraylength, 1) := by decide +kernel
theorem dX8_isWord_42 : decode cX8_isWord 42 = .ok (.if_icmp .le 5, 3) := by decide +kernel
theorem dX8_isWord_45 : decode cX8_isWord 45 = .ok (.iconst 0, 1) := by decide +kernel
theorem dX8_isWord_46 : decode cX8_isWord 46 = .ok (.ireturn, 1) := by decide +kernel
theorem dX8_isWord_47 : decode cX8_isWord 47 = .ok (.iconst 0, 1) := by decide +kernel
theorem dX8_isWord_48 : decode cX8_isWord 48 = .ok (.istore_n 3, 1) := by decide +kernel
theorem dX8_isWord_49 : decode cX8_isWord 49 = .ok (.iload_n 3, 1) := by decide +kernel
theorem dX8_isWord_50 : decode cX8_isWord 50 = .ok (.iload_n 2, 1) := by decide +kernel
theorem dX8_isWord_51 : decode cX8_isWord 51 = .ok (.if_icmp .ge 30, 3) := by decide +kernel
theorem dX8_isWord_54 : decode cX8_isWord 54 = .ok (.aload_n 0, 1) := by decide +kernel
theorem dX8_isWord_55 : decode cX8_isWord 55 = .ok (.getfield 9, 3) := by decide +kernel
theorem dX8_isWord_58 : decode cX8_isWord 58 = .ok (.aload_n 0, 1) := by decide +kernel
theorem dX8_isWord_59 : decode cX8_isWord 59 = .ok (.getfield 25, 3) := by decide +kernel
theorem dX8_isWord_62 : decode cX8_isWord 62 = .ok (.iload_n 3, 1) := by decide +kernel
theorem dX8_isWord_63 : decode cX8_isWord 63 = .ok (.iadd, 1) := by decide +kernel
theorem dX8_isWord_64 : decode cX8_isWord 64 = .ok (.iaload, 1) := by decide +kernel
theorem dX8_isWord_65 : decode cX8_isWord 65 = .ok (.aload_n 1, 1) := by decide +kernel
theorem dX8_isWord_66 : decode cX8_isWord 66 = .ok (.iload_n 3, 1) := by decide +kernel
theorem dX8_isWord_67 : decode cX8_isWord 67 = .ok (.invokevirtual 56, 3) := by decide +kernel
theorem dX8_isWord_70 : decode cX8_isWord 70 = .ok (.if_icmp .eq 5, 3) := by decide +kernel
theorem dX8_isWord_73 : decode cX8_isWord 73 = .ok (.iconst 0, 1) := by decide +kernel
theorem dX8_isWord_74 : decode cX8_isWord 74 = .ok (.ireturn, 1) := by decide +kernel
theorem dX8_isWord_75 : decode cX8_isWord 75 = .ok (.iinc 3 1, 3) := by decide +kernel
theorem dX8_isWord_78 : decode cX8_isWord 78 = .ok (.goto (-29), 3) := by decide +kernel
theorem dX8_isWord_81 : decode cX8_isWord 81 = .ok (.iconst 1, 1) := by decide +kernel
theorem dX8_isWord_82 : decode cX8_isWord 82 = .ok (.ireturn, 1) := by decide +kernel
theorem dX9_init_0 : decode cX9_init 0 = .ok (.aload_n 0, 1) := by decide +kernel
theorem dX9_init_1 : decode cX9_init 1 = .ok (.invokespecial 3, 3) := by decide +kernel
theorem dX9_init_4 : decode cX9_init 4 = .ok (.aload_n 0, 1) := by decide +kernel
theorem dX9_init_5 : decode cX9_init 5 = .ok (.sipush 3000, 3) := by decide +kernel
theorem dX9_init_8 : decode cX9_init 8 = .ok (.newarray .int, 2) := by decide +kernel
theorem dX9_init_10 : decode cX9_init 10 = .ok (.putfield 9, 3) := by decide +kernel
theorem dX9_init_13 : decode cX9_init 13 = .ok (.return_, 1) := by decide +kernel
theorem dX9_record_0 : decode cX9_record 0 = .ok (.aload_n 1, 1) := by decide +kernel
theorem dX9_record_1 : decode cX9_record 1 = .ok (.getfield 15, 3) := by decide +kernel
theorem dX9_record_4 : decode cX9_record 4 = .ok (.invokevirtual 21, 3) := by decide +kernel
theorem dX9_record_7 : decode cX9_record 7 = .ok (.istore_n 2, 1) := by decide +kernel
theorem dX9_record_8 : decode cX9_record 8 = .ok (.iconst 0, 1) := by decide +kernel
theorem dX9_record_9 : decode cX9_record 9 = .ok (.istore_n 3, 1) := by decide +kernel
theorem dX9_record_10 : decode cX9_record 10 = .ok (.iload_n 3, 1) := by decide +kernel
theorem dX9_record_11 : decode cX9_record 11 = .ok (.iload_n 2, 1) := by decide +kernel
theorem dX9_record_12 : decode cX9_record 12 = .ok (.if_icmp .ge 63, 3) := by decide +kernel
theorem dX9_record_15 : decode cX9_record 15 = .ok (.aload_n 1, 1) := by decide +kernel
theorem dX9_record_16 : decode cX9_record 16 = .ok (.getfield 27, 3) := by decide +kernel
theorem dX9_record_19 : decode cX9_record 19 = .ok (.bipush 6, 2) := by decide +kernel
theorem dX9_record_21 : decode cX9_record 21 = .ok (.imul, 1) := by decide +kernel
theorem dX9_record_22 : decode cX9_record 22 = .ok (.iload_n 3, 1) := by decide +kernel
theorem dX9_record_23 : decode cX9_record 23 = .ok (.iadd, 1) := by decide +kernel
theorem dX9_record_24 : decode cX9_record 24 = .ok (.istore 4, 2) := by decide +kernel
theorem dX9_record_26 : decode cX9_record 26 = .ok (.iload 4, 2) := by decide +kernel
theorem dX9_record_28 : decode cX9_record 28 = .ok (.ifCond .lt 41, 3) := by decide +kernel
theorem dX9_record_31 : decode cX9_record 31 = .ok (.iload 4, 2) := by decide +kernel
theorem dX9_record_33 : decode cX9_record 33 = .ok (.aload_n 0, 1) := by decide +kernel
theorem dX9_record_34 : decode cX9_record 34 = .ok (.getfield 9, 3) := by decide +kernel
theorem dX9_record_37 : decode cX9_record 37 = .ok (.arraylength, 1) := by decide +kernel
theorem dX9_record_38 : decode cX9_record 38 = .ok (.if_icmp .ge 31, 3) := by decide +kernel
theorem dX9_record_41 : decode cX9_record 41 = .ok (.aload_n 0, 1) := by decide +kernel
theorem dX9_record_42 : decode cX9_record 42 = .ok (.getfield 9, 3) := by decide +kernel
theorem dX9_record_45 : decode cX9_record 45 = .ok (.iload 4, 2) := by decide +kernel
theorem dX9_record_47 : decode cX9_record 47 = .ok (.aload_n 1, 1) := by decide +kernel
theorem dX9_record_48 : decode cX9_record 48 = .ok (.getfield 15, 3) := by decide +kernel
theorem dX9_record_51 : decode cX9_record 51 = .ok (.iload_n 3, 1) := by decide +kernel
theorem dX9_record_52 : decode cX9_record 52 = .ok (.iconst 0, 1) := by decide +kernel
theorem dX9_record_53 : decode cX9_record 53 = .ok (.invokevirtual 31, 3) := by decide +kernel
theorem dX9_record_56 : decode cX9_record 56 = .ok (.aload_n 1, 1) := by decide +kernel
theorem dX9_record_57 : decode cX9_record 57 = .ok (.getfield 15, 3) := by decide +kernel
theorem dX9_record_60 : decode cX9_record 60 = .ok (.iload_n 3, 1) := by decide +kernel
theorem dX9_record_61 : decode cX9_record 61 = .ok (.iconst 1, 1) := by decide +kernel
theorem dX9_record_62 : decode cX9_record 62 = .ok (.invokevirtual 31, 3) := by decide +kernel
theorem dX9_record_65 : decode cX9_record 65 = .ok (.invokestatic 35, 3) := by decide +kernel
theorem dX9_record_68 : decode cX9_record 68 = .ok (.iastore, 1) := by decide +kernel
theorem dX9_record_69 : decode cX9_record 69 = .ok (.iinc 3 1, 3) := by decide +kernel
theorem dX9_record_72 : decode cX9_record 72 = .ok (.goto (-62), 3) := by decide +kernel
theorem dX9_record_75 : decode cX9_record 75 = .ok (.return_, 1) := by decide +kernel
theorem dX9_placeOf_0 : decode cX9_placeOf 0 = .ok (.iload_n 2, 1) := by decide +kernel
theorem dX9_placeOf_1 : decode cX9_placeOf 1 = .ok (.bipush 6, 2) := by decide +kernel
theorem dX9_placeOf_3 : decode cX9_placeOf 3 = .ok (.imul, 1) := by decide +kernel
theorem dX9_placeOf_4 : decode cX9_placeOf 4 = .ok (.iload_n 1, 1) := by decide +kernel
theorem dX9_placeOf_5 : decode cX9_placeOf 5 = .ok (.iadd, 1) := by decide +kernel
theorem dX9_placeOf_6 : decode cX9_placeOf 6 = .ok (.istore_n 3, 1) := by decide +kernel
theorem dX9_placeOf_7 : decode cX9_placeOf 7 = .ok (.iload_n 3, 1) := by decide +kernel
theorem dX9_placeOf_8 : decode cX9_placeOf 8 = .ok (.ifCond .lt 21, 3) := by decide +kernel
theorem dX9_placeOf_11 : decode cX9_placeOf 11 = .ok (.iload_n 3, 1) := by decide +kernel
theorem dX9_placeOf_12 : decode cX9_placeOf 12 = .ok (.aload_n 0, 1) := by decide +kernel
theorem dX9_placeOf_13 : decode cX9_placeOf 13 = .ok (.getfield 9, 3) := by decide +kernel
theorem dX9_placeOf_16 : decode cX9_placeOf 16 = .ok (.arraylength, 1) := by decide +kernel
theorem dX9_placeOf_17 : decode cX9_placeOf 17 = .ok (.if_icmp .ge 12, 3) := by decide +kernel
theorem dX9_placeOf_20 : decode cX9_placeOf 20 = .ok (.aload_n 0, 1) := by decide +kernel
theorem dX9_placeOf_21 : decode cX9_placeOf 21 = .ok (.getfield 9, 3) := by decide +kernel
theorem dX9_placeOf_24 : decode cX9_placeOf 24 = .ok (.iload_n 3, 1) := by decide +kernel
theorem dX9_placeOf_25 : decode cX9_placeOf 25 = .ok (.iaload, 1) := by decide +kernel
theorem dX9_placeOf_26 : decode cX9_placeOf 26 = .ok (.goto 4, 3) := by decide +kernel
theorem dX9_placeOf_29 : decode cX9_placeOf 29 = .ok (.iconst (-1), 1) := by decide +kernel
theorem dX9_placeOf_30 : decode cX9_placeOf 30 = .ok (.ireturn, 1) := by decide +kernel
theorem dX9_copyFrom_0 : decode cX9_copyFrom 0 = .ok (.aload_n 1, 1) := by decide +kernel
theorem dX9_copyFrom_1 : decode cX9_copyFrom 1 = .ok (.getfield 9, 3) := by decide +kernel
theorem dX9_copyFrom_4 : decode cX9_copyFrom 4 = .ok (.iconst 0, 1) := by decide +kernel
theorem dX9_copyFrom_5 : decode cX9_copyFrom 5 = .ok (.aload_n 0, 1) := by decide +kernel
theorem dX9_copyFrom_6 : decode cX9_copyFrom 6 = .ok (.getfield 9, 3) := by decide +kernel
theorem dX9_copyFrom_9 : decode cX9_copyFrom 9 = .ok (.iconst 0, 1) := by decide +kernel
theorem dX9_copyFrom_10 : decode cX9_copyFrom 10 = .ok (.sipush 3000, 3) := by decide +kernel
theorem dX9_copyFrom_13 : decode cX9_copyFrom 13 = .ok (.invokestatic 38, 3) := by decide +kernel
theorem dX9_copyFrom_16 : decode cX9_copyFrom 16 = .ok (.return_, 1) := by decide +kernel
theorem dX10_init_0 : decode cX10_init 0 = .ok (.aload_n 0, 1) := by decide +kernel
theorem dX10_init_1 : decode cX10_init 1 = .ok (.invokespecial 3, 3) := by decide +kernel
theorem dX10_init_4 : decode cX10_init 4 = .ok (.aload_n 0, 1) := by decide +kernel
theorem dX10_init_5 : decode cX10_init 5 = .ok (.new 9, 3) := by decide +kernel
theorem dX10_init_8 : decode cX10_init 8 = .ok (.dup, 1) := by decide +kernel
theorem dX10_init_9 : decode cX10_init 9 = .ok (.invokespecial 11, 3) := by decide +kernel
theorem dX10_init_12 : decode cX10_init 12 = .ok (.putfield 12, 3) := by decide +kernel
theorem dX10_init_15 : decode cX10_init 15 = .ok (.aload_n 0, 1) := by decide +kernel
theorem dX10_init_16 : decode cX10_init 16 = .ok (.new 9, 3) := by decide +kernel
theorem dX10_init_19 : decode cX10_init 19 = .ok (.dup, 1) := by decide +kernel
theorem dX10_init_20 : decode cX10_init 20 = .ok (.invokespecial 11, 3) := by decide +kernel
theorem dX10_init_23 : decode cX10_init 23 = .ok (.putfield 16, 3) := by decide +kernel
theorem dX10_init_26 : decode cX10_init 26 = .ok (.aload_n 0, 1) := by decide +kernel
theorem dX10_init_27 : decode cX10_init 27 = .ok (.new 19, 3) := by decide +kernel
theorem dX10_init_30 : decode cX10_init 30 = .ok (.dup, 1) := by decide +kernel
theorem dX10_init_31 : decode cX10_init 31 = .ok (.invokespecial 21, 3) := by decide +kernel
theorem dX10_init_34 : decode cX10_init 34 = .ok (.putfield 22, 3) := by decide +kernel
theorem dX10_init_37 : decode cX10_init 37 = .ok (.aload_n 0, 1) := by decide +kernel
theorem dX10_init_38 : decode cX10_init 38 = .ok (.new 26, 3) := by decide +kernel
theorem dX10_init_41 : decode cX10_init 41 = .ok (.dup, 1) := by decide +kernel
theorem dX10_init_42 : decode cX10_init 42 = .ok (.invokespecial 28, 3) := by decide +kernel
theorem dX10_init_45 : decode cX10_init 45 = .ok (.putfield 29, 3) := by decide +kernel
theorem dX10_init_48 : decode cX10_init 48 = .ok (.aload_n 0, 1) := by decide +kernel
theorem dX10_init_49 : decode cX10_init 49 = .ok (.new 33, 3) := by decide +kernel
theorem dX10_init_52 : decode cX10_init 52 = .ok (.dup, 1) := by decide +kernel
theorem dX10_init_53 : decode cX10_init 53 = .ok (.aload_n 0, 1) := by decide +kernel
theorem dX10_init_54 : decode cX10_init 54 = .ok (.getfield 12, 3) := by decide +kernel
theorem dX10_init_57 : decode cX10_init 57 = .ok (.invokespecial 35, 3) := by decide +kernel
theorem dX10_init_60 : decode cX10_init 60 = .ok (.putfield 38, 3) := by decide +kernel
theorem dX10_init_63 : decode cX10_init 63 = .ok (.aload_n 0, 1) := by decide +kernel
theorem dX10_init_64 : decode cX10_init 64 = .ok (.new 42, 3) := by decide +kernel
theorem dX10_init_67 : decode cX10_init 67 = .ok (.dup, 1) := by decide +kernel
theorem dX10_init_68 : decode cX10_init 68 = .ok (.aload_n 0, 1) := by decide +kernel
theorem dX10_init_69 : decode cX10_init 69 = .ok (.getfield 38, 3) := by decide +kernel
theorem dX10_init_72 : decode cX10_init 72 = .ok (.invokespecial 44, 3) := by decide +kernel
theorem dX10_init_75 : decode cX10_init 75 = .ok (.putfield 47, 3) := by decide +kernel
theorem dX10_init_78 : decode cX10_init 78 = .ok (.aload_n 0, 1) := by decide +kernel
theorem dX10_init_79 : decode cX10_init 79 = .ok (.sipush 600, 3) := by decide +kernel
theorem dX10_init_82 : decode cX10_init 82 = .ok (.newarray .int, 2) := by decide +kernel
theorem dX10_init_84 : decode cX10_init 84 = .ok (.putfield 51, 3) := by decide +kernel
theorem dX10_init_87 : decode cX10_init 87 = .ok (.aload_n 0, 1) := by decide +kernel
theorem dX10_init_88 : decode cX10_init 88 = .ok (.new 55, 3) := by decide +kernel
theorem dX10_init_91 : decode cX10_init 91 = .ok (.dup, 1) := by decide +kernel
theorem dX10_init_92 : decode cX10_init 92 = .ok (.aload_n 0, 1) := by decide +kernel
theorem dX10_init_93 : decode cX10_init 93 = .ok (.getfield 51, 3) := by decide +kernel
theorem dX10_init_96 : decode cX10_init 96 = .ok (.invokespecial 57, 3) := by decide +kernel
theorem dX10_init_99 : decode cX10_init 99 = .ok (.putfield 60, 3) := by decide +kernel
theorem dX10_init_102 : decode cX10_init 102 = .ok (.aload_n 0, 1) := by decide +kernel
theorem dX10_init_103 : decode cX10_init 103 = .ok (.new 64, 3) := by decide +kernel
theorem dX10_init_106 : decode cX10_init 106 = .ok (.dup, 1) := by decide +kernel
theorem dX10_init_107 : decode cX10_init 107 = .ok (.aload_n 0, 1) := by decide +kernel
theorem dX10_init_108 : decode cX10_init 108 = .ok (.getfield 60, 3) := by decide +kernel
theorem dX10_init_111 : decode cX10_init 111 = .ok (.aload_n 0, 1) := by decide +kernel
theorem dX10_init_112 : decode cX10_init 112 = .ok (.getfield 16, 3) := by decide +kernel
theorem dX10_init_115 : decode cX10_init 115 = .ok (.invokespecial 66, 3) := by decide +kernel
theorem dX10_init_118 : decode cX10_init 118 = .ok (.putfield 69, 3) := by decide +kernel
theorem dX10_init_121 : decode cX10_init 121 = .ok (.aload_n 0, 1) := by decide +kernel
theorem dX10_init_122 : decode cX10_init 122 = .ok (.new 73, 3) := by decide +kernel
theorem dX10_init_125 : decode cX10_init 125 = .ok (.dup, 1) := by decide +kernel
theorem dX10_init_126 : decode cX10_init 126 = .ok (.aload_n 0, 1) := by decide +kernel
theorem dX10_init_127 : decode cX10_init 127 = .ok (.getfield 60, 3) := by decide +kernel
theorem dX10_init_130 : decode cX10_init 130 = .ok (.aload_n 0, 1) := by decide +kernel
theorem dX10_init_131 : decode cX10_init 131 = .ok (.getfield 12, 3) := by decide +kernel
theorem dX10_init_134 : decode cX10_init 134 = .ok (.invokespecial 75, 3) := by decide +kernel
theorem dX10_init_137 : decode cX10_init 137 = .ok (.putfield 76, 3) := by decide +kernel
theorem dX10_init_140 : decode cX10_init 140 = .ok (.aload_n 0, 1) := by decide +kernel
theorem dX10_init_141 : decode cX10_init 141 = .ok (.bipush 12, 2) := by decide +kernel
theorem dX10_init_143 : decode cX10_init 143 = .ok (.newarray .int, 2) := by decide +kernel
theorem dX10_init_145 : decode cX10_init 145 = .ok (.putfield 80, 3) := by decide +kernel
theorem dX10_init_148 : decode cX10_init 148 = .ok (.aload_n 0, 1) := by decide +kernel
theorem dX10_init_149 : decode cX10_init 149 = .ok (.iconst (-1), 1) := by decide +kernel
theorem dX10_init_150 : decode cX10_init 150 = .ok (.putfield 83, 3) := by decide +kernel
theorem dX10_init_153 : decode cX10_init 153 = .ok (.return_, 1) := by decide +kernel
theorem dX10_feed_0 : decode cX10_feed 0 = .ok (.aload_n 0, 1) := by decide +kernel
theorem dX10_feed_1 : decode cX10_feed 1 = .ok (.getfield 87, 3) := by decide +kernel
theorem dX10_feed_4 : decode cX10_feed 4 = .ok (.sipush 580, 3) := by decide +kernel
theorem dX10_feed_7 : decode cX10_feed 7 = .ok (.if_icmp .le 5, 3) := by decide +kernel
theorem dX10_feed_10 : decode cX10_feed 10 = .ok (.iconst (-1), 1) := by decide +kernel
theorem dX10_feed_11 : decode cX10_feed 11 = .ok (.ireturn, 1) := by decide +kernel
theorem dX10_feed_12 : decode cX10_feed 12 = .ok (.aload_n 0, 1) := by decide +kernel
theorem dX10_feed_13 : decode cX10_feed 13 = .ok (.iload_n 1, 1) := by decide +kernel
theorem dX10_feed_14 : decode cX10_feed 14 = .ok (.invokevirtual 90, 3) := by decide +kernel
theorem dX10_feed_17 : decode cX10_feed 17 = .ok (.aload_n 0, 1) := by decide +kernel
theorem dX10_feed_18 : decode cX10_feed 18 = .ok (.iload_n 2, 1) := by decide +kernel
theorem dX10_feed_19 : decode cX10_feed 19 = .ok (.invokevirtual 90, 3) := by decide +kernel
theorem dX10_feed_22 : decode cX10_feed 22 = .ok (.aload_n 0, 1) := by decide +kernel
theorem dX10_feed_23 : decode cX10_feed 23 = .ok (.iload_n 3, 1) := by decide +kernel
theorem dX10_feed_24 : decode cX10_feed 24 = .ok (.invokevirtual 90, 3) := by decide +kernel
theorem dX10_feed_27 : decode cX10_feed 27 = .ok (.aload_n 0, 1) := by decide +kernel
theorem dX10_feed_28 : decode cX10_feed 28 = .ok (.iload 4, 2) := by decide +kernel
theorem dX10_feed_30 : decode cX10_feed 30 = .ok (.invokevirtual 90, 3) := by decide +kernel
theorem dX10_feed_33 : decode cX10_feed 33 = .ok (.aload_n 0, 1) := by decide +kernel
theorem dX10_feed_34 : decode cX10_feed 34 = .ok (.iload 5, 2) := by decide +kernel
theorem dX10_feed_36 : decode cX10_feed 36 = .ok (.invokevirtual 90, 3) := by decide +kernel
theorem dX10_feed_39 : decode cX10_feed 39 = .ok (.aload_n 0, 1) := by decide +kernel
theorem dX10_feed_40 : decode cX10_feed 40 = .ok (.getfield 87, 3) := by decide +kernel
theorem dX10_feed_43 : decode cX10_feed 43 = .ok (.ireturn, 1) := by decide +kernel
theorem dX10_appendBytes_0 : decode cX10_appendBytes 0 = .ok (.bipush 24, 2) := by decide +kernel
theorem dX10_appendBytes_2 : decode cX10_appendBytes 2 = .ok (.istore_n 2, 1) := by decide +kernel
theorem dX10_appendBytes_3 : decode cX10_appendBytes 3 = .ok (.iload_n 2, 1) := by decide +kernel
theorem dX10_appendBytes_4 : decode cX10_appendBytes 4 = .ok (.ifCond .lt 54, 3) := by decide +kernel
theorem dX10_appendBytes_7 : decode cX10_appendBytes 7 = .ok (.aload_n 0, 1) := by decide +kernel
theorem dX10_appendBytes_8 : decode cX10_appendBytes 8 = .ok (.getfield 87, 3) := by decide +kernel
theorem dX10_appendBytes_11 : decode cX10_appendBytes 11 = .ok (.ifCond .lt 41, 3) := by decide +kernel
theorem dX10_appendBytes_14 : decode cX10_appendBytes 14 = .ok (.aload_n 0, 1) := by decide +kernel
theorem dX10_appendBytes_15 : decode cX10_appendBytes 15 = .ok (.getfield 87, 3) := by decide +kernel
theorem dX10_appendBytes_18 : decode cX10_appendBytes 18 = .ok (.aload_n 0, 1) := by decide +kernel
theorem dX10_appendBytes_19 : decode cX10_appendBytes 19 = .ok (.getfield 51, 3) := by decide +kernel
theorem dX10_appendBytes_22 : decode cX10_appendBytes 22 = .ok (.arraylength, 1) := by decide +kernel
theorem dX10_appendBytes_23 : decode cX10_appendBytes 23 = .ok (.if_icmp .ge 29, 3) := by decide +kernel
theorem dX10_appendBytes_26 : decode cX10_appendBytes 26 = .ok (.aload_n 0, 1) := by decide +kernel
theorem dX10_appendBytes_27 : decode cX10_appendBytes 27 = .ok (.getfield 51, 3) := by decide +kernel
theorem dX10_appendBytes_30 : decode cX10_appendBytes 30 = .ok (.aload_n 0, 1) := by decide +kernel
theorem dX10_appendBytes_31 : decode cX10_appendBytes 31 = .ok (.getfield 87, 3) := by decide +kernel
theorem dX10_appendBytes_34 : decode cX10_appendBytes 34 = .ok (.iload_n 1, 1) := by decide +kernel
theorem dX10_appendBytes_35 : decode cX10_appendBytes 35 = .ok (.iload_n 2, 1) := by decide +kernel
theorem dX10_appendBytes_36 : decode cX10_appendBytes 36 = .ok (.ishr, 1) := by decide +kernel
theorem dX10_appendBytes_37 : decode cX10_appendBytes 37 = .ok (.sipush 255, 3) := by decide +kernel
theorem dX10_appendBytes_40 : decode cX10_appendBytes 40 = .ok (.iand, 1) := by decide +kernel
theorem dX10_appendBytes_41 : decode cX10_appendBytes 41 = .ok (.iastore, 1) := by decide +kernel
theorem dX10_appendBytes_42 : decode cX10_appendBytes 42 = .ok (.aload_n 0, 1) := by decide +kernel
theorem dX10_appendBytes_43 : decode cX10_appendBytes 43 = .ok (.dup, 1) := by decide +kernel
theorem dX10_appendBytes_44 : decode cX10_appendBytes 44 = .ok (.getfield 87, 3) := by decide +kernel
theorem dX10_appendBytes_47 : decode cX10_appendBytes 47 = .ok (.iconst 1, 1) := by decide +kernel
theorem dX10_appendBytes_48 : decode cX10_appendBytes 48 = .ok (.iadd, 1) := by decide +kernel
theorem dX10_appendBytes_49 : decode cX10_appendBytes 49 = .ok (.putfield 87, 3) := by decide +kernel
theorem dX10_appendBytes_52 : decode cX10_appendBytes 52 = .ok (.iinc 2 (-8), 3) := by decide +kernel
theorem dX10_appendBytes_55 : decode cX10_appendBytes 55 = .ok (.goto (-52), 3) := by decide +kernel
theorem dX10_appendBytes_58 : decode cX10_appendBytes 58 = .ok (.return_, 1) := by decide +kernel
theorem dX10_load_0 : decode cX10_load 0 = .ok (.iload_n 1, 1) := by decide +kernel
theorem dX10_load_1 : decode cX10_load 1 = .ok (.ifCond .lt 11, 3) := by decide +kernel
theorem dX10_load_4 : decode cX10_load 4 = .ok (.iload_n 1, 1) := by decide +kernel
theorem dX10_load_5 : decode cX10_load 5 = .ok (.aload_n 0, 1) := by decide +kernel
theorem dX10_load_6 : decode cX10_load 6 = .ok (.getfield 87, 3) := by decide +kernel
theorem dX10_load_9 : decode cX10_load 9 = .ok (.if_icmp .le 13, 3) := by decide +kernel
theorem dX10_load_12 : decode cX10_load 12 = .ok (.new 94, 3) := by decide +kernel
theorem dX10_load_15 : decode cX10_load 15 = .ok (.dup, 1) := by decide +kernel
theorem dX10_load_16 : decode cX10_load 16 = .ok (.ldc 96, 2) := by decide +kernel
theorem dX10_load_18 : decode cX10_load 18 = .ok (.invokespecial 98, 3) := by decide +kernel
theorem dX10_load_21 : decode cX10_load 21 = .ok (.athrow, 1) := by decide +kernel
theorem dX10_load_22 : decode cX10_load 22 = .ok (.aload_n 0, 1) := by decide +kernel
theorem dX10_load_23 : decode cX10_load 23 = .ok (.iconst 0, 1) := by decide +kernel
theorem dX10_load_24 : decode cX10_load 24 = .ok (.putfield 87, 3) := by decide +kernel
theorem dX10_load_27 : decode cX10_load 27 = .ok (.aload_n 0, 1) := by decide +kernel
theorem dX10_load_28 : decode cX10_load 28 = .ok (.getfield 69, 3) := by decide +kernel
theorem dX10_load_31 : decode cX10_load 31 = .ok (.iload_n 1, 1) := by decide +kernel
theorem dX10_load_32 : decode cX10_load 32 = .ok (.invokevirtual 101, 3) := by decide +kernel
theorem dX10_load_35 : decode cX10_load 35 = .ok (.istore_n 2, 1) := by decide +kernel
theorem dX10_load_36 : decode cX10_load 36 = .ok (.aload_n 0, 1) := by decide +kernel
theorem dX10_load_37 : decode cX10_load 37 = .ok (.aload_n 0, 1) := by decide +kernel
theorem dX10_load_38 : decode cX10_load 38 = .ok (.getfield 60, 3) := by decide +kernel
theorem dX10_load_41 : decode cX10_load 41 = .ok (.invokevirtual 105, 3) := by decide +kernel
theorem dX10_load_44 : decode cX10_load 44 = .ok (.putfield 83, 3) := by decide +kernel
theorem dX10_load_47 : decode cX10_load 47 = .ok (.iload_n 2, 1) := by decide +kernel
theorem dX10_load_48 : decode cX10_load 48 = .ok (.ifCond .eq 8, 3) := by decide +kernel
theorem dX10_load_51 : decode cX10_load 51 = .ok (.bipush (-10), 2) := by decide +kernel
theorem dX10_load_53 : decode cX10_load 53 = .ok (.iload_n 2, 1) := by decide +kernel
theorem dX10_load_54 : decode cX10_load 54 = .ok (.isub, 1) := by decide +kernel
theorem dX10_load_55 : decode cX10_load 55 = .ok (.ireturn, 1) := by decide +kernel
theorem dX10_load_56 : decode cX10_load 56 = .ok (.aload_n 0, 1) := by decide +kernel
theorem dX10_load_57 : decode cX10_load 57 = .ok (.getfield 12, 3) := by decide +kernel
theorem dX10_load_60 : decode cX10_load 60 = .ok (.aload_n 0, 1) := by decide +kernel
theorem dX10_load_61 : decode cX10_load 61 = .ok (.getfield 16, 3) := by decide +kernel
theorem dX10_load_64 : decode cX10_load 64 = .ok (.invokevirtual 109, 3) := by decide +kernel
theorem dX10_load_67 : decode cX10_load 67 = .ok (.aload_n 0, 1) := by decide +kernel
theorem dX10_load_68 : decode cX10_load 68 = .ok (.getfield 38, 3) := by decide +kernel
theorem dX10_load_71 : decode cX10_load 71 = .ok (.invokevirtual 112, 3) := by decide +kernel
theorem dX10_load_74 : decode cX10_load 74 = .ok (.aload_n 0, 1) := by decide +kernel
theorem dX10_load_75 : decode cX10_load 75 = .ok (.getfield 29, 3) := by decide +kernel
theorem dX10_load_78 : decode cX10_load 78 = .ok (.invokevirtual 115, 3) := by decide +kernel
theorem dX10_load_81 : decode cX10_load 81 = .ok (.aload_n 0, 1) := by decide +kernel
theorem dX10_load_82 : decode cX10_load 82 = .ok (.iconst 0, 1) := by decide +kernel
theorem dX10_load_83 : decode cX10_load 83 = .ok (.putfield 118, 3) := by decide +kernel
theorem dX10_load_86 : decode cX10_load 86 = .ok (.aload_n 0, 1) := by decide +kernel
theorem dX10_load_87 : decode cX10_load 87 = .ok (.getfield 12, 3) := by decide +kernel
theorem dX10_load_90 : decode cX10_load 90 = .ok (.getfield 122, 3) := by decide +kernel
theorem dX10_load_93 : decode cX10_load 93 = .ok (.invokevirtual 126, 3) := by decide +kernel
theorem dX10_load_96 : decode cX10_load 96 = .ok (.ireturn, 1) := by decide +kernel
theorem dX10_errorPosition_0 : decode cX10_errorPosition 0 = .ok (.aload_n 0, 1) := by decide +kernel
theorem dX10_errorPosition_1 : decode cX10_errorPosition 1 = .ok (.getfield 83, 3) := by decide +kernel
theorem dX10_errorPosition_4 : decode cX10_errorPosition 4 = .ok (.ireturn, 1) := by decide +kernel
theorem dX10_size_0 : decode cX10_size 0 = .ok (.iload_n 1, 1) := by decide +kernel
theorem dX10_size_1 : decode cX10_size 1 = .ok (.tableswitch 174 0 11 #[63, 71, 79, 90, 101, 112, 120, 128, 139, 150, 158, 166], 63) := by decide +kernel
theorem dX10_size_64 : decode cX10_size 64 = .ok (.aload_n 0, 1) := by decide +kernel
theorem dX10_size_65 : decode cX10_size 65 = .ok (.getfield 12, 3) := by decide +kernel
theorem dX10_size_68 : decode cX10_size 68 = .ok (.getfield 131, 3) := by decide +kernel
theorem dX10_size_71 : decode cX10_size 71 = .ok (.ireturn, 1) := by decide +kernel
theorem dX10_size_72 : decode cX10_size 72 = .ok (.aload_n 0, 1) := by decide +kernel
theorem dX10_size_73 : decode cX10_size 73 = .ok (.getfield 12, 3) := by decide +kernel
theorem dX10_size_76 : decode cX10_size 76 = .ok (.getfield 134, 3) := by decide +kernel
theorem dX10_size_79 : decode cX10_size 79 = .ok (.ireturn, 1) := by decide +kernel
theorem dX10_size_80 : decode cX10_size 80 = .ok (.aload_n 0, 1) := by decide +kernel
theorem dX10_size_81 : decode cX10_size 81 = .ok (.getfield 12, 3) := by decide +kernel
theorem dX10_size_84 : decode cX10_size 84 = .ok (.getfield 122, 3) := by decide +kernel
theorem dX10_size_87 : decode cX10_size 87 = .ok (.invokevirtual 126, 3) := by decide +kernel
theorem dX10_size_90 : decode cX10_size 90 = .ok (.ireturn, 1) := by decide +kernel
theorem dX10_size_91 : decode cX10_size 91 = .ok (.aload_n 0, 1) := by decide +kernel
theorem dX10_size_92 : decode cX10_size 92 = .ok (.getfield 12, 3) := by decide +kernel
theorem dX10_size_95 : decode cX10_size 95 = .ok (.getfield 137, 3) := by decide +kernel
theorem dX10_size_98 : decode cX10_size 98 = .ok (.invokevirtual 126, 3) := by decide +kernel
theorem dX10_size_101 : decode cX10_size 101 = .ok (.ireturn, 1) := by decide +kernel
theorem dX10_size_102 : decode cX10_size 102 = .ok (.aload_n 0, 1) := by decide +kernel
theorem dX10_size_103 : decode cX10_size 103 = .ok (.getfield 12, 3) := by decide +kernel
theorem dX10_size_106 : decode cX10_size 106 = .ok (.getfield 140, 3) := by decide +kernel
theorem dX10_size_109 : decode cX10_size 109 = .ok (.invokevirtual 126, 3) := by decide +kernel
theorem dX10_size_112 : decode cX10_size 112 = .ok (.ireturn, 1) := by decide +kernel
theorem dX10_size_113 : decode cX10_size 113 = .ok (.aload_n 0, 1) := by decide +kernel
theorem dX10_size_114 : decode cX10_size 114 = .ok (.getfield 12, 3) := by decide +kernel
theorem dX10_size_117 : decode cX10_size 117 = .ok (.getfield 143, 3) := by decide +kernel
theorem dX10_size_120 : decode cX10_size 120 = .ok (.ireturn, 1) := by decide +kernel
theorem dX10_size_121 : decode cX10_size 121 = .ok (.aload_n 0, 1) := by decide +kernel
theorem dX10_size_122 : decode cX10_size 122 = .ok (.getfield 12, 3) := by decide +kernel
theorem dX10_size_125 : decode cX10_size 125 = .ok (.getfield 146, 3) := by decide +kernel
theorem dX10_size_128 : decode cX10_size 128 = .ok (.ireturn, 1) := by decide +kernel
theorem dX10_size_129 : decode cX10_size 129 = .ok (.aload_n 0, 1) := by decide +kernel
theorem dX10_size_130 : decode cX10_size 130 = .ok (.getfield 12, 3) := by decide +kernel
theorem dX10_size_133 : decode cX10_size 133 = .ok (.getfield 149, 3) := by decide +kernel
theorem dX10_size_136 : decode cX10_size 136 = .ok (.invokevirtual 126, 3) := by decide +kernel
theorem dX10_size_139 : decode cX10_size 139 = .ok (.ireturn, 1) := by decide +kernel
theorem dX10_size_140 : decode cX10_size 140 = .ok (.aload_n 0, 1) := by decide +kernel
theorem dX10_size_141 : decode cX10_size 141 = .ok (.getfield 12, 3) := by decide +kernel
theorem dX10_size_144 : decode cX10_size 144 = .ok (.getfield 152, 3) := by decide +kernel
theorem dX10_size_147 : decode cX10_size 147 = .ok (.invokevirtual 126, 3) := by decide +kernel
theorem dX10_size_150 : decode cX10_size 150 = .ok (.ireturn, 1) := by decide +kernel
theorem dX10_size_151 : decode cX10_size 151 = .ok (.aload_n 0, 1) := by decide +kernel
theorem dX10_size_152 : decode cX10_size 152 = .ok (.getfield 12, 3) := by decide +kernel
theorem dX10_size_155 : decode cX10_size 155 = .ok (.getfield 155, 3) := by decide +kernel
theorem dX10_size_158 : decode cX10_size 158 = .ok (.ireturn, 1) := by decide +kernel
theorem dX10_size_159 : decode cX10_size 159 = .ok (.aload_n 0, 1) := by decide +kernel
theorem dX10_size_160 : decode cX10_size 160 = .ok (.getfield 12, 3) := by decide +kernel
theorem dX10_size_163 : decode cX10_size 163 = .ok (.getfield 158, 3) := by decide +kernel
theorem dX10_size_166 : decode cX10_size 166 = .ok (.ireturn, 1) := by decide +kernel
theorem dX10_size_167 : decode cX10_size 167 = .ok (.aload_n 0, 1) := by decide +kernel
theorem dX10_size_168 : decode cX10_size 168 = .ok (.getfield 12, 3) := by decide +kernel
theorem dX10_size_171 : decode cX10_size 171 = .ok (.getfield 161, 3) := by decide +kernel
theorem dX10_size_174 : decode cX10_size 174 = .ok (.ireturn, 1) := by decide +kernel
theorem dX10_size_175 : decode cX10_size 175 = .ok (.new 164, 3) := by decide +kernel
theorem dX10_size_178 : decode cX10_size 178 = .ok (.dup, 1) := by decide +kernel
theorem dX10_size_179 : decode cX10_size 179 = .ok (.ldc 166, 2) := by decide +kernel
theorem dX10_size_181 : decode cX10_size 181 = .ok (.invokespecial 168, 3) := by decide +kernel
theorem dX10_size_184 : decode cX10_size 184 = .ok (.athrow, 1) := by decide +kernel
theorem dX10_unit_0 : decode cX10_unit 0 = .ok (.aload_n 0, 1) := by decide +kernel
theorem dX10_unit_1 : decode cX10_unit 1 = .ok (.getfield 12, 3) := by decide +kernel
theorem dX10_unit_4 : decode cX10_unit 4 = .ok (.getfield 122, 3) := by decide +kernel
theorem dX10_unit_7 : decode cX10_unit 7 = .ok (.iload_n 1, 1) := by decide +kernel
theorem dX10_unit_8 : decode cX10_unit 8 = .ok (.invokestatic 169, 3) := by decide +kernel
theorem dX10_unit_11 : decode cX10_unit 11 = .ok (.iload_n 2, 1) := by decide +kernel
theorem dX10_unit_12 : decode cX10_unit 12 = .ok (.bipush 6, 2) := by decide +kernel
theorem dX10_unit_14 : decode cX10_unit 14 = .ok (.invokestatic 173, 3) := by decide +kernel
theorem dX10_unit_17 : decode cX10_unit 17 = .ok (.iload_n 2, 1) := by decide +kernel
theorem dX10_unit_18 : decode cX10_unit 18 = .ok (.iconst 4, 1) := by decide +kernel
theorem dX10_unit_19 : decode cX10_unit 19 = .ok (.if_icmp .ne 12, 3) := by decide +kernel
theorem dX10_unit_22 : decode cX10_unit 22 = .ok (.aload_n 0, 1) := by decide +kernel
theorem dX10_unit_23 : decode cX10_unit 23 = .ok (.getfield 12, 3) := by decide +kernel
theorem dX10_unit_26 : decode cX10_unit 26 = .ok (.iload_n 1, 1) := by decide +kernel
theorem dX10_unit_27 : decode cX10_unit 27 = .ok (.invokevirtual 177, 3) := by decide +kernel
theorem dX10_unit_30 : decode cX10_unit 30 = .ok (.ireturn, 1) := by decide +kernel
theorem dX10_unit_31 : decode cX10_unit 31 = .ok (.iload_n 2, 1) := by decide +kernel
theorem dX10_unit_32 : decode cX10_unit 32 = .ok (.iconst 5, 1) := by decide +kernel
theorem dX10_unit_33 : decode cX10_unit 33 = .ok (.if_icmp .ne 12, 3) := by decide +kernel
theorem dX10_unit_36 : decode cX10_unit 36 = .ok (.aload_n 0, 1) := by decide +kernel
theorem dX10_unit_37 : decode cX10_unit 37 = .ok (.getfield 12, 3) := by decide +kernel
theorem dX10_unit_40 : decode cX10_unit 40 = .ok (.iload_n 1, 1) := by decide +kernel
theorem dX10_unit_41 : decode cX10_unit 41 = .ok (.invokevirtual 180, 3) := by decide +kernel
theorem dX10_unit_44 : decode cX10_unit 44 = .ok (.ireturn, 1) := by decide +kernel
theorem dX10_unit_45 : decode cX10_unit 45 = .ok (.aload_n 0, 1) := by decide +kernel
theorem dX10_unit_46 : decode cX10_unit 46 = .ok (.getfield 12, 3) := by decide +kernel
theorem dX10_unit_49 : decode cX10_unit 49 = .ok (.getfield 122, 3) := by decide +kernel
theorem dX10_unit_52 : decode cX10_unit 52 = .ok (.iload_n 1, 1) := by decide +kernel
theorem dX10_unit_53 : decode cX10_unit 53 = .ok (.iload_n 2, 1) := by decide +kernel
theorem dX10_unit_54 : decode cX10_unit 54 = .ok (.invokevirtual 183, 3) := by decide +kernel
theorem dX10_unit_57 : decode cX10_unit 57 = .ok (.ireturn, 1) := by decide +kernel
theorem dX10_picket_0 : decode cX10_picket 0 = .ok (.aload_n 0, 1) := by decide +kernel
theorem dX10_picket_1 : decode cX10_picket 1 = .ok (.getfield 12, 3) := by decide +kernel
theorem dX10_picket_4 : decode cX10_picket 4 = .ok (.getfield 137, 3) := by decide +kernel
theorem dX10_picket_7 : decode cX10_picket 7 = .ok (.iload_n 1, 1) := by decide +kernel
theorem dX10_picket_8 : decode cX10_picket 8 = .ok (.invokestatic 169, 3) := by decide +kernel
theorem dX10_picket_11 : decode cX10_picket 11 = .ok (.iload_n 2, 1) := by decide +kernel
theorem dX10_picket_12 : decode cX10_picket 12 = .ok (.bipush 8, 2) := by decide +kernel
theorem dX10_picket_14 : decode cX10_picket 14 = .ok (.invokestatic 173, 3) := by decide +kernel
theorem dX10_picket_17 : decode cX10_picket 17 = .ok (.iload_n 2, 1) := by decide +kernel
theorem dX10_picket_18 : decode cX10_picket 18 = .ok (.bipush 6, 2) := by decide +kernel
theorem dX10_picket_20 : decode cX10_picket 20 = .ok (.if_icmp .ne 27, 3) := by decide +kernel
theorem dX10_picket_23 : decode cX10_picket 23 = .ok (.aload_n 0, 1) := by decide +kernel
theorem dX10_picket_24 : decode cX10_picket 24 = .ok (.getfield 12, 3) := by decide +kernel
theorem dX10_picket_27 : decode cX10_picket 27 = .ok (.iload_n 1, 1) := by decide +kernel
theorem dX10_picket_28 : decode cX10_picket 28 = .ok (.aload_n 0, 1) := by decide +kernel
theorem dX10_picket_29 : decode cX10_picket 29 = .ok (.getfield 12, 3) := by decide +kernel
theorem dX10_picket_32 : decode cX10_picket 32 = .ok (.getfield 143, 3) := by decide +kernel
theorem dX10_picket_35 : decode cX10_picket 35 = .ok (.invokevirtual 187, 3) := by decide +kernel
theorem dX10_picket_38 : decode cX10_picket 38 = .ok (.ifCond .eq 7, 3) := by decide +kernel
theorem dX10_picket_41 : decode cX10_picket 41 = .ok (.iconst 1, 1) := by decide +kernel
theorem dX10_picket_42 : decode cX10_picket 42 = .ok (.goto 4, 3) := by decide +kernel
theorem dX10_picket_45 : decode cX10_picket 45 = .ok (.iconst 0, 1) := by decide +kernel
theorem dX10_picket_46 : decode cX10_picket 46 = .ok (.ireturn, 1) := by decide +kernel
theorem dX10_picket_47 : decode cX10_picket 47 = .ok (.aload_n 0, 1) := by decide +kernel
theorem dX10_picket_48 : decode cX10_picket 48 = .ok (.getfield 12, 3) := by decide +kernel
theorem dX10_picket_51 : decode cX10_picket 51 = .ok (.getfield 137, 3) := by decide +kernel
theorem dX10_picket_54 : decode cX10_picket 54 = .ok (.iload_n 1, 1) := by decide +kernel
theorem dX10_picket_55 : decode cX10_picket 55 = .ok (.iload_n 2, 1) := by decide +kernel
theorem dX10_picket_56 : decode cX10_picket 56 = .ok (.invokevirtual 183, 3) := by decide +kernel
theorem dX10_picket_59 : decode cX10_picket 59 = .ok (.ireturn, 1) := by decide +kernel
theorem dX10_order_0 : decode cX10_order 0 = .ok (.aload_n 0, 1) := by decide +kernel
theorem dX10_order_1 : decode cX10_order 1 = .ok (.getfield 12, 3) := by decide +kernel
theorem dX10_order_4 : decode cX10_order 4 = .ok (.getfield 140, 3) := by decide +kernel
theorem dX10_order_7 : decode cX10_order 7 = .ok (.iload_n 1, 1) := by decide +kernel
theorem dX10_order_8 : decode cX10_order 8 = .ok (.invokestatic 169, 3) := by decide +kernel
theorem dX10_order_11 : decode cX10_order 11 = .ok (.iload_n 2, 1) := by decide +kernel
theorem dX10_order_12 : decode cX10_order 12 = .ok (.bipush 10, 2) := by decide +kernel
theorem dX10_order_14 : decode cX10_order 14 = .ok (.invokestatic 173, 3) := by decide +kernel
theorem dX10_order_17 : decode cX10_order 17 = .ok (.aload_n 0, 1) := by decide +kernel
theorem dX10_order_18 : decode cX10_order 18 = .ok (.getfield 12, 3) := by decide +kernel
theorem dX10_order_21 : decode cX10_order 21 = .ok (.getfield 140, 3) := by decide +kernel
theorem dX10_order_24 : decode cX10_order 24 = .ok (.iload_n 1, 1) := by decide +kernel
theorem dX10_order_25 : decode cX10_order 25 = .ok (.iload_n 2, 1) := by decide +kernel
theorem dX10_order_26 : decode cX10_order 26 = .ok (.invokevirtual 183, 3) := by decide +kernel
theorem dX10_order_29 : decode cX10_order 29 = .ok (.ireturn, 1) := by decide +kernel
theorem dX10_plan_0 : decode cX10_plan 0 = .ok (.aload_n 0, 1) := by decide +kernel
theorem dX10_plan_1 : decode cX10_plan 1 = .ok (.getfield 12, 3) := by decide +kernel
theorem dX10_plan_4 : decode cX10_plan 4 = .ok (.getfield 152, 3) := by decide +kernel
theorem dX10_plan_7 : decode cX10_plan 7 = .ok (.iload_n 1, 1) := by decide +kernel
theorem dX10_plan_8 : decode cX10_plan 8 = .ok (.invokestatic 169, 3) := by decide +kernel
theorem dX10_plan_11 : decode cX10_plan 11 = .ok (.iload_n 2, 1) := by decide +kernel
theorem dX10_plan_12 : decode cX10_plan 12 = .ok (.iconst 4, 1) := by decide +kernel
theorem dX10_plan_13 : decode cX10_plan 13 = .ok (.invokestatic 173, 3) := by decide +kernel
theorem dX10_plan_16 : decode cX10_plan 16 = .ok (.aload_n 0, 1) := by decide +kernel
theorem dX10_plan_17 : decode cX10_plan 17 = .ok (.getfield 12, 3) := by decide +kernel
theorem dX10_plan_20 : decode cX10_plan 20 = .ok (.getfield 152, 3) := by decide +kernel
theorem dX10_plan_23 : decode cX10_plan 23 = .ok (.iload_n 1, 1) := by decide +kernel
theorem dX10_plan_24 : decode cX10_plan 24 = .ok (.iload_n 2, 1) := by decide +kernel
theorem dX10_plan_25 : decode cX10_plan 25 = .ok (.invokevirtual 183, 3) := by decide +kernel
theorem dX10_plan_28 : decode cX10_plan 28 = .ok (.ireturn, 1) := by decide +kernel
theorem dX10_event_0 : decode cX10_event 0 = .ok (.aload_n 0, 1) := by decide +kernel
theorem dX10_event_1 : decode cX10_event 1 = .ok (.getfield 12, 3) := by decide +kernel
theorem dX10_event_4 : decode cX10_event 4 = .ok (.getfield 149, 3) := by decide +kernel
theorem dX10_event_7 : decode cX10_event 7 = .ok (.iload_n 1, 1) := by decide +kernel
theorem dX10_event_8 : decode cX10_event 8 = .ok (.invokestatic 169, 3) := by decide +kernel
theorem dX10_event_11 : decode cX10_event 11 = .ok (.iload_n 2, 1) := by decide +kernel
theorem dX10_event_12 : decode cX10_event 12 = .ok (.iconst 3, 1) := by decide +kernel
theorem dX10_event_13 : decode cX10_event 13 = .ok (.invokestatic 173, 3) := by decide +kernel
theorem dX10_event_16 : decode cX10_event 16 = .ok (.aload_n 0, 1) := by decide +kernel
theorem dX10_event_17 : decode cX10_event 17 = .ok (.getfield 12, 3) := by decide +kernel
theorem dX10_event_20 : decode cX10_event 20 = .ok (.getfield 149, 3) := by decide +kernel
theorem dX10_event_23 : decode cX10_event 23 = .ok (.iload_n 1, 1) := by decide +kernel
theorem dX10_event_24 : decode cX10_event 24 = .ok (.iload_n 2, 1) := by decide +kernel
theorem dX10_event_25 : decode cX10_event 25 = .ok (.invokevirtual 183, 3) := by decide +kernel
theorem dX10_event_28 : decode cX10_event 28 = .ok (.ireturn, 1) := by decide +kernel
theorem dX10_orders_0 : decode cX10_orders 0 = .ok (.iload_n 1, 1) := by decide +kernel
theorem dX10_orders_1 : decode cX10_orders 1 = .ok (.ifCond .lt 9, 3) := by decide +kernel
theorem dX10_orders_4 : decode cX10_orders 4 = .ok (.iload_n 1, 1) := by decide +kernel
theorem dX10_orders_5 : decode cX10_orders 5 = .ok (.bipush 6, 2) := by decide +kernel
theorem dX10_orders_7 : decode cX10_orders 7 = .ok (.if_icmp .le 13, 3) := by decide +kernel
theorem dX10_orders_10 : decode cX10_orders 10 = .ok (.new 94, 3) := by decide +kernel
theorem dX10_orders_13 : decode cX10_orders 13 = .ok (.dup, 1) := by decide +kernel
theorem dX10_orders_14 : decode cX10_orders 14 = .ok (.ldc 191, 2) := by decide +kernel
theorem dX10_orders_16 : decode cX10_orders 16 = .ok (.invokespecial 98, 3) := by decide +kernel
theorem dX10_orders_19 : decode cX10_orders 19 = .ok (.athrow, 1) := by decide +kernel
theorem dX10_orders_20 : decode cX10_orders 20 = .ok (.aload_n 0, 1) := by decide +kernel
theorem dX10_orders_21 : decode cX10_orders 21 = .ok (.getfield 12, 3) := by decide +kernel
theorem dX10_orders_24 : decode cX10_orders 24 = .ok (.iload_n 1, 1) := by decide +kernel
theorem dX10_orders_25 : decode cX10_orders 25 = .ok (.invokevirtual 193, 3) := by decide +kernel
theorem dX10_orders_28 : decode cX10_orders 28 = .ok (.ireturn, 1) := by decide +kernel
theorem dX10_isWall_0 : decode cX10_isWall 0 = .ok (.aload_n 0, 1) := by decide +kernel
theorem dX10_isWall_1 : decode cX10_isWall 1 = .ok (.iload_n 1, 1) := by decide +kernel
theorem dX10_isWall_2 : decode cX10_isWall 2 = .ok (.iload_n 2, 1) := by decide +kernel
theorem dX10_isWall_3 : decode cX10_isWall 3 = .ok (.invokevirtual 196, 3) := by decide +kernel
theorem dX10_isWall_6 : decode cX10_isWall 6 = .ok (.aload_n 0, 1) := by decide +kernel
theorem dX10_isWall_7 : decode cX10_isWall 7 = .ok (.getfield 12, 3) := by decide +kernel
theorem dX10_isWall_10 : decode cX10_isWall 10 = .ok (.iload_n 1, 1) := by decide +kernel
theorem dX10_isWall_11 : decode cX10_isWall 11 = .ok (.iload_n 2, 1) := by decide +kernel
theorem dX10_isWall_12 : decode cX10_isWall 12 = .ok (.invokevirtual 199, 3) := by decide +kernel
theorem dX10_isWall_15 : decode cX10_isWall 15 = .ok (.ireturn, 1) := by decide +kernel
theorem dX10_isWatched_0 : decode cX10_isWatched 0 = .ok (.aload_n 0, 1) := by decide +kernel
theorem dX10_isWatched_1 : decode cX10_isWatched 1 = .ok (.iload_n 1, 1) := by decide +kernel
theorem dX10_isWatched_2 : decode cX10_isWatched 2 = .ok (.iload_n 2, 1) := by decide +kernel
theorem dX10_isWatched_3 : decode cX10_isWatched 3 = .ok (.invokevirtual 196, 3) := by decide +kernel
theorem dX10_isWatched_6 : decode cX10_isWatched 6 = .ok (.iload_n 3, 1) := by decide +kernel
theorem dX10_isWatched_7 : decode cX10_isWatched 7 = .ok (.ifCond .ge 13, 3) := by decide +kernel
theorem dX10_isWatched_10 : decode cX10_isWatched 10 = .ok (.new 94, 3) := by decide +kernel
theorem dX10_isWatched_13 : decode cX10_isWatched 13 = .ok (.dup, 1) := by decide +kernel
theorem dX10_isWatched_14 : decode cX10_isWatched 14 = .ok (.ldc 202, 2) := by decide +kernel
theorem dX10_isWatched_16 : decode cX10_isWatched 16 = .ok (.invokespecial 98, 3) := by decide +kernel
theorem dX10_isWatched_19 : decode cX10_isWatched 19 = .ok (.athrow, 1) := by decide +kernel
theorem dX10_isWatched_20 : decode cX10_isWatched 20 = .ok (.aload_n 0, 1) := by decide +kernel
theorem dX10_isWatched_21 : decode cX10_isWatched 21 = .ok (.getfield 12, 3) := by decide +kernel
theorem dX10_isWatched_24 : decode cX10_isWatched 24 = .ok (.iload_n 1, 1) := by decide +kernel
theorem dX10_isWatched_25 : decode cX10_isWatched 25 = .ok (.iload_n 2, 1) := by decide +kernel
theorem dX10_isWatched_26 : decode cX10_isWatched 26 = .ok (.iload_n 3, 1) := by decide +kernel
theorem dX10_isWatched_27 : decode cX10_isWatched 27 = .ok (.invokevirtual 204, 3) := by decide +kernel
theorem dX10_isWatched_30 : decode cX10_isWatched 30 = .ok (.iconst (-1), 1) := by decide +kernel
theorem dX10_isWatched_31 : decode cX10_isWatched 31 = .ok (.if_icmp .eq 7, 3) := by decide +kernel
theorem dX10_isWatched_34 : decode cX10_isWatched 34 = .ok (.iconst 1, 1) := by decide +kernel
theorem dX10_isWatched_35 : decode cX10_isWatched 35 = .ok (.goto 4, 3) := by decide +kernel
theorem dX10_isWatched_38 : decode cX10_isWatched 38 = .ok (.iconst 0, 1) := by decide +kernel
theorem dX10_isWatched_39 : decode cX10_isWatched 39 = .ok (.ireturn, 1) := by decide +kernel
theorem dX10_distance_0 : decode cX10_distance 0 = .ok (.aload_n 0, 1) := by decide +kernel
theorem dX10_distance_1 : decode cX10_distance 1 = .ok (.iload_n 1, 1) := by decide +kernel
theorem dX10_distance_2 : decode cX10_distance 2 = .ok (.iload_n 2, 1) := by decide +kernel
theorem dX10_distance_3 : decode cX10_distance 3 = .ok (.invokevirtual 196, 3) := by decide +kernel
theorem dX10_distance_6 : decode cX10_distance 6 = .ok (.aload_n 0, 1) := by decide +kernel
theorem dX10_distance_7 : decode cX10_distance 7 = .ok (.iload_n 3, 1) := by decide +kernel
theorem dX10_distance_8 : decode cX10_distance 8 = .ok (.iload 4, 2) := by decide +kernel
theorem dX10_distance_10 : decode cX10_distance 10 = .ok (.invokevirtual 196, 3) := by decide +kernel
theorem dX10_distance_13 : decode cX10_distance 13 = .ok (.aload_n 0, 1) := by decide +kernel
theorem dX10_distance_14 : decode cX10_distance 14 = .ok (.getfield 38, 3) := by decide +kernel
theorem dX10_distance_17 : decode cX10_distance 17 = .ok (.iload_n 1, 1) := by decide +kernel
theorem dX10_distance_18 : decode cX10_distance 18 = .ok (.iload_n 2, 1) := by decide +kernel
theorem dX10_distance_19 : decode cX10_distance 19 = .ok (.invokestatic 208, 3) := by decide +kernel
theorem dX10_distance_22 : decode cX10_distance 22 = .ok (.iload_n 3, 1) := by decide +kernel
theorem dX10_distance_23 : decode cX10_distance 23 = .ok (.iload 4, 2) := by decide +kernel
theorem dX10_distance_25 : decode cX10_distance 25 = .ok (.invokestatic 208, 3) := by decide +kernel
theorem dX10_distance_28 : decode cX10_distance 28 = .ok (.invokevirtual 211, 3) := by decide +kernel
theorem dX10_distance_31 : decode cX10_distance 31 = .ok (.ireturn, 1) := by decide +kernel
theorem dX10_step_0 : decode cX10_step 0 = .ok (.aload_n 0, 1) := by decide +kernel
theorem dX10_step_1 : decode cX10_step 1 = .ok (.iload_n 1, 1) := by decide +kernel
theorem dX10_step_2 : decode cX10_step 2 = .ok (.iload_n 2, 1) := by decide +kernel
theorem dX10_step_3 : decode cX10_step 3 = .ok (.invokevirtual 196, 3) := by decide +kernel
theorem dX10_step_6 : decode cX10_step 6 = .ok (.aload_n 0, 1) := by decide +kernel
theorem dX10_step_7 : decode cX10_step 7 = .ok (.iload_n 3, 1) := by decide +kernel
theorem dX10_step_8 : decode cX10_step 8 = .ok (.iload 4, 2) := by decide +kernel
theorem dX10_step_10 : decode cX10_step 10 = .ok (.invokevirtual 196, 3) := by decide +kernel
theorem dX10_step_13 : decode cX10_step 13 = .ok (.aload_n 0, 1) := by decide +kernel
theorem dX10_step_14 : decode cX10_step 14 = .ok (.getfield 38, 3) := by decide +kernel
theorem dX10_step_17 : decode cX10_step 17 = .ok (.iload_n 1, 1) := by decide +kernel
theorem dX10_step_18 : decode cX10_step 18 = .ok (.iload_n 2, 1) := by decide +kernel
theorem dX10_step_19 : decode cX10_step 19 = .ok (.invokestatic 208, 3) := by decide +kernel
theorem dX10_step_22 : decode cX10_step 22 = .ok (.iload_n 3, 1) := by decide +kernel
theorem dX10_step_23 : decode cX10_step 23 = .ok (.iload 4, 2) := by decide +kernel
theorem dX10_step_25 : decode cX10_step 25 = .ok (.invokestatic 208, 3) := by decide +kernel
theorem dX10_step_28 : decode cX10_step 28 = .ok (.invokevirtual 214, 3) := by decide +kernel
theorem dX10_step_31 : decode cX10_step 31 = .ok (.istore 5, 2) := by decide +kernel
theorem dX10_step_33 : decode cX10_step 33 = .ok (.iload 5, 2) := by decide +kernel
theorem dX10_step_35 : decode cX10_step 35 = .ok (.iconst (-1), 1) := by decide +kernel
theorem dX10_step_36 : decode cX10_step 36 = .ok (.if_icmp .ne 7, 3) := by decide +kernel
theorem dX10_step_39 : decode cX10_step 39 = .ok (.iconst (-1), 1) := by decide +kernel
theorem dX10_step_40 : decode cX10_step 40 = .ok (.goto 16, 3) := by decide +kernel
theorem dX10_step_43 : decode cX10_step 43 = .ok (.iload 5, 2) := by decide +kernel
theorem dX10_step_45 : decode cX10_step 45 = .ok (.invokestatic 217, 3) := by decide +kernel
theorem dX10_step_48 : decode cX10_step 48 = .ok (.iload 5, 2) := by decide +kernel
theorem dX10_step_50 : decode cX10_step 50 = .ok (.invokestatic 220, 3) := by decide +kernel
theorem dX10_step_53 : decode cX10_step 53 = .ok (.invokestatic 223, 3) := by decide +kernel
theorem dX10_step_56 : decode cX10_step 56 = .ok (.ireturn, 1) := by decide +kernel
theorem dX10_wasAt_0 : decode cX10_wasAt 0 = .ok (.aload_n 0, 1) := by decide +kernel
theorem dX10_wasAt_1 : decode cX10_wasAt 1 = .ok (.getfield 12, 3) := by decide +kernel
theorem dX10_wasAt_4 : decode cX10_wasAt 4 = .ok (.getfield 122, 3) := by decide +kernel
theorem dX10_wasAt_7 : decode cX10_wasAt 7 = .ok (.iload_n 1, 1) := by decide +kernel
theorem dX10_wasAt_8 : decode cX10_wasAt 8 = .ok (.invokestatic 169, 3) := by decide +kernel
theorem dX10_wasAt_11 : decode cX10_wasAt 11 = .ok (.aload_n 0, 1) := by decide +kernel
theorem dX10_wasAt_12 : decode cX10_wasAt 12 = .ok (.iload_n 2, 1) := by decide +kernel
theorem dX10_wasAt_13 : decode cX10_wasAt 13 = .ok (.invokevirtual 226, 3) := by decide +kernel
theorem dX10_wasAt_16 : decode cX10_wasAt 16 = .ok (.iload_n 2, 1) := by decide +kernel
theorem dX10_wasAt_17 : decode cX10_wasAt 17 = .ok (.aload_n 0, 1) := by decide +kernel
theorem dX10_wasAt_18 : decode cX10_wasAt 18 = .ok (.getfield 12, 3) := by decide +kernel
theorem dX10_wasAt_21 : decode cX10_wasAt 21 = .ok (.getfield 143, 3) := by decide +kernel
theorem dX10_wasAt_24 : decode cX10_wasAt 24 = .ok (.if_icmp .ne 31, 3) := by decide +kernel
theorem dX10_wasAt_27 : decode cX10_wasAt 27 = .ok (.aload_n 0, 1) := by decide +kernel
theorem dX10_wasAt_28 : decode cX10_wasAt 28 = .ok (.getfield 12, 3) := by decide +kernel
theorem dX10_wasAt_31 : decode cX10_wasAt 31 = .ok (.getfield 122, 3) := by decide +kernel
theorem dX10_wasAt_34 : decode cX10_wasAt 34 = .ok (.iload_n 1, 1) := by decide +kernel
theorem dX10_wasAt_35 : decode cX10_wasAt 35 = .ok (.iconst 0, 1) := by decide +kernel
theorem dX10_wasAt_36 : decode cX10_wasAt 36 = .ok (.invokevirtual 183, 3) := by decide +kernel
theorem dX10_wasAt_39 : decode cX10_wasAt 39 = .ok (.aload_n 0, 1) := by decide +kernel
theorem dX10_wasAt_40 : decode cX10_wasAt 40 = .ok (.getfield 12, 3) := by decide +kernel
theorem dX10_wasAt_43 : decode cX10_wasAt 43 = .ok (.getfield 122, 3) := by decide +kernel
theorem dX10_wasAt_46 : decode cX10_wasAt 46 = .ok (.iload_n 1, 1) := by decide +kernel
theorem dX10_wasAt_47 : decode cX10_wasAt 47 = .ok (.iconst 1, 1) := by decide +kernel
theorem dX10_wasAt_48 : decode cX10_wasAt 48 = .ok (.invokevirtual 183, 3) := by decide +kernel
theorem dX10_wasAt_51 : decode cX10_wasAt 51 = .ok (.invokestatic 223, 3) := by decide +kernel
theorem dX10_wasAt_54 : decode cX10_wasAt 54 = .ok (.ireturn, 1) := by decide +kernel
theorem dX10_wasAt_55 : decode cX10_wasAt 55 = .ok (.aload_n 0, 1) := by decide +kernel
theorem dX10_wasAt_56 : decode cX10_wasAt 56 = .ok (.getfield 22, 3) := by decide +kernel
theorem dX10_wasAt_59 : decode cX10_wasAt 59 = .ok (.iload_n 1, 1) := by decide +kernel
theorem dX10_wasAt_60 : decode cX10_wasAt 60 = .ok (.iload_n 2, 1) := by decide +kernel
theorem dX10_wasAt_61 : decode cX10_wasAt 61 = .ok (.invokevirtual 229, 3) := by decide +kernel
theorem dX10_wasAt_64 : decode cX10_wasAt 64 = .ok (.ireturn, 1) := by decide +kernel
theorem dX10_stateAt_0 : decode cX10_stateAt 0 = .ok (.aload_n 0, 1) := by decide +kernel
theorem dX10_stateAt_1 : decode cX10_stateAt 1 = .ok (.getfield 12, 3) := by decide +kernel
theorem dX10_stateAt_4 : decode cX10_stateAt 4 = .ok (.getfield 140, 3) := by decide +kernel
theorem dX10_stateAt_7 : decode cX10_stateAt 7 = .ok (.iload_n 1, 1) := by decide +kernel
theorem dX10_stateAt_8 : decode cX10_stateAt 8 = .ok (.invokestatic 169, 3) := by decide +kernel
theorem dX10_stateAt_11 : decode cX10_stateAt 11 = .ok (.aload_n 0, 1) := by decide +kernel
theorem dX10_stateAt_12 : decode cX10_stateAt 12 = .ok (.iload_n 2, 1) := by decide +kernel
theorem dX10_stateAt_13 : decode cX10_stateAt 13 = .ok (.invokevirtual 226, 3) := by decide +kernel
theorem dX10_stateAt_16 : decode cX10_stateAt 16 = .ok (.iload_n 2, 1) := by decide +kernel
theorem dX10_stateAt_17 : decode cX10_stateAt 17 = .ok (.aload_n 0, 1) := by decide +kernel
theorem dX10_stateAt_18 : decode cX10_stateAt 18 = .ok (.getfield 12, 3) := by decide +kernel
theorem dX10_stateAt_21 : decode cX10_stateAt 21 = .ok (.getfield 140, 3) := by decide +kernel
theorem dX10_stateAt_24 : decode cX10_stateAt 24 = .ok (.iload_n 1, 1) := by decide +kernel
theorem dX10_stateAt_25 : decode cX10_stateAt 25 = .ok (.iconst 4, 1) := by decide +kernel
theorem dX10_stateAt_26 : decode cX10_stateAt 26 = .ok (.invokevirtual 183, 3) := by decide +kernel
theorem dX10_stateAt_29 : decode cX10_stateAt 29 = .ok (.if_icmp .gt 5, 3) := by decide +kernel
theorem dX10_stateAt_32 : decode cX10_stateAt 32 = .ok (.iconst (-1), 1) := by decide +kernel
theorem dX10_stateAt_33 : decode cX10_stateAt 33 = .ok (.ireturn, 1) := by decide +kernel
theorem dX10_stateAt_34 : decode cX10_stateAt 34 = .ok (.iconst 0, 1) := by decide +kernel
theorem dX10_stateAt_35 : decode cX10_stateAt 35 = .ok (.istore_n 3, 1) := by decide +kernel
theorem dX10_stateAt_36 : decode cX10_stateAt 36 = .ok (.aload_n 0, 1) := by decide +kernel
theorem dX10_stateAt_37 : decode cX10_stateAt 37 = .ok (.getfield 12, 3) := by decide +kernel
theorem dX10_stateAt_40 : decode cX10_stateAt 40 = .ok (.getfield 149, 3) := by decide +kernel
theorem dX10_stateAt_43 : decode cX10_stateAt 43 = .ok (.invokevirtual 126, 3) := by decide +kernel
theorem dX10_stateAt_46 : decode cX10_stateAt 46 = .ok (.istore 4, 2) := by decide +kernel
theorem dX10_stateAt_48 : decode cX10_stateAt 48 = .ok (.iconst 0, 1) := by decide +kernel
theorem dX10_stateAt_49 : decode cX10_stateAt 49 = .ok (.istore 5, 2) := by decide +kernel
theorem dX10_stateAt_51 : decode cX10_stateAt 51 = .ok (.iload 5, 2) := by decide +kernel
theorem dX10_stateAt_53 : decode cX10_stateAt 53 = .ok (.iload 4, 2) := by decide +kernel
theorem dX10_stateAt_55 : decode cX10_stateAt 55 = .ok (.if_icmp .ge 57, 3) := by decide +kernel
theorem dX10_stateAt_58 : decode cX10_stateAt 58 = .ok (.aload_n 0, 1) := by decide +kernel
theorem dX10_stateAt_59 : decode cX10_stateAt 59 = .ok (.getfield 12, 3) := by decide +kernel
theorem dX10_stateAt_62 : decode cX10_stateAt 62 = .ok (.getfield 149, 3) := by decide +kernel
theorem dX10_stateAt_65 : decode cX10_stateAt 65 = .ok (.iload 5, 2) := by decide +kernel
theorem dX10_stateAt_67 : decode cX10_stateAt 67 = .ok (.iconst 1, 1) := by decide +kernel
theorem dX10_stateAt_68 : decode cX10_stateAt 68 = .ok (.invokevirtual 183, 3) := by decide +kernel
theorem dX10_stateAt_71 : decode cX10_stateAt 71 = .ok (.iload_n 1, 1) := by decide +kernel
theorem dX10_stateAt_72 : decode cX10_stateAt 72 = .ok (.if_icmp .ne 34, 3) := by decide +kernel
theorem dX10_stateAt_75 : decode cX10_stateAt 75 = .ok (.aload_n 0, 1) := by decide +kernel
theorem dX10_stateAt_76 : decode cX10_stateAt 76 = .ok (.getfield 12, 3) := by decide +kernel
theorem dX10_stateAt_79 : decode cX10_stateAt 79 = .ok (.getfield 149, 3) := by decide +kernel
theorem dX10_stateAt_82 : decode cX10_stateAt 82 = .ok (.iload 5, 2) := by decide +kernel
theorem dX10_stateAt_84 : decode cX10_stateAt 84 = .ok (.iconst 0, 1) := by decide +kernel
theorem dX10_stateAt_85 : decode cX10_stateAt 85 = .ok (.invokevirtual 183, 3) := by decide +kernel
theorem dX10_stateAt_88 : decode cX10_stateAt 88 = .ok (.iload_n 2, 1) := by decide +kernel
theorem dX10_stateAt_89 : decode cX10_stateAt 89 = .ok (.if_icmp .ge 17, 3) := by decide +kernel
theorem dX10_stateAt_92 : decode cX10_stateAt 92 = .ok (.aload_n 0, 1) := by decide +kernel
theorem dX10_stateAt_93 : decode cX10_stateAt 93 = .ok (.getfield 12, 3) := by decide +kernel
theorem dX10_stateAt_96 : decode cX10_stateAt 96 = .ok (.getfield 149, 3) := by decide +kernel
theorem dX10_stateAt_99 : decode cX10_stateAt 99 = .ok (.iload 5, 2) := by decide +kernel
theorem dX10_stateAt_101 : decode cX10_stateAt 101 = .ok (.iconst 2, 1) := by decide +kernel
theorem dX10_stateAt_102 : decode cX10_stateAt 102 = .ok (.invokevirtual 183, 3) := by decide +kernel
theorem dX10_stateAt_105 : decode cX10_stateAt 105 = .ok (.istore_n 3, 1) := by decide +kernel
theorem dX10_stateAt_106 : decode cX10_stateAt 106 = .ok (.iinc 5 1, 3) := by decide +kernel
theorem dX10_stateAt_109 : decode cX10_stateAt 109 = .ok (.goto (-58), 3) := by decide +kernel
theorem dX10_stateAt_112 : decode cX10_stateAt 112 = .ok (.iload_n 3, 1) := by decide +kernel
theorem dX10_stateAt_113 : decode cX10_stateAt 113 = .ok (.ireturn, 1) := by decide +kernel
theorem dX10_crossed_0 : decode cX10_crossed 0 = .ok (.iconst 0, 1) := by decide +kernel
theorem dX10_crossed_1 : decode cX10_crossed 1 = .ok (.istore_n 1, 1) := by decide +kernel
theorem dX10_crossed_2 : decode cX10_crossed 2 = .ok (.aload_n 0, 1) := by decide +kernel
theorem dX10_crossed_3 : decode cX10_crossed 3 = .ok (.getfield 12, 3) := by decide +kernel
theorem dX10_crossed_6 : decode cX10_crossed 6 = .ok (.getfield 140, 3) := by decide +kernel
theorem dX10_crossed_9 : decode cX10_crossed 9 = .ok (.invokevirtual 126, 3) := by decide +kernel
theorem dX10_crossed_12 : decode cX10_crossed 12 = .ok (.istore_n 2, 1) := by decide +kernel
theorem dX10_crossed_13 : decode cX10_crossed 13 = .ok (.iconst 1, 1) := by decide +kernel
theorem dX10_crossed_14 : decode cX10_crossed 14 = .ok (.istore_n 3, 1) := by decide +kernel
theorem dX10_crossed_15 : decode cX10_crossed 15 = .ok (.iload_n 3, 1) := by decide +kernel
theorem dX10_crossed_16 : decode cX10_crossed 16 = .ok (.iload_n 2, 1) := by decide +kernel
theorem dX10_crossed_17 : decode cX10_crossed 17 = .ok (.if_icmp .ge 40, 3) := by decide +kernel
theorem dX10_crossed_20 : decode cX10_crossed 20 = .ok (.iconst 0, 1) := by decide +kernel
theorem dX10_crossed_21 : decode cX10_crossed 21 = .ok (.istore 4, 2) := by decide +kernel
theorem dX10_crossed_23 : decode cX10_crossed 23 = .ok (.iload 4, 2) := by decide +kernel
theorem dX10_crossed_25 : decode cX10_crossed 25 = .ok (.iload_n 3, 1) := by decide +kernel
theorem dX10_crossed_26 : decode cX10_crossed 26 = .ok (.if_icmp .ge 25, 3) := by decide +kernel
theorem dX10_crossed_29 : decode cX10_crossed 29 = .ok (.aload_n 0, 1) := by decide +kernel
theorem dX10_crossed_30 : decode cX10_crossed 30 = .ok (.getfield 12, 3) := by decide +kernel
theorem dX10_crossed_33 : decode cX10_crossed 33 = .ok (.iload_n 3, 1) := by decide +kernel
theorem dX10_crossed_34 : decode cX10_crossed 34 = .ok (.iload 4, 2) := by decide +kernel
theorem dX10_crossed_36 : decode cX10_crossed 36 = .ok (.invokevirtual 232, 3) := by decide +kernel
theorem dX10_crossed_39 : decode cX10_crossed 39 = .ok (.ifCond .eq 6, 3) := by decide +kernel
theorem dX10_crossed_42 : decode cX10_crossed 42 = .ok (.iinc 1 1, 3) := by decide +kernel
theorem dX10_crossed_45 : decode cX10_crossed 45 = .ok (.iinc 4 1, 3) := by decide +kernel
theorem dX10_crossed_48 : decode cX10_crossed 48 = .ok (.goto (-25), 3) := by decide +kernel
theorem dX10_crossed_51 : decode cX10_crossed 51 = .ok (.iinc 3 1, 3) := by decide +kernel
theorem dX10_crossed_54 : decode cX10_crossed 54 = .ok (.goto (-39), 3) := by decide +kernel
theorem dX10_crossed_57 : decode cX10_crossed 57 = .ok (.iload_n 1, 1) := by decide +kernel
theorem dX10_crossed_58 : decode cX10_crossed 58 = .ok (.ireturn, 1) := by decide +kernel
theorem dX10_wouldBe_0 : decode cX10_wouldBe 0 = .ok (.aload_n 0, 1) := by decide +kernel
theorem dX10_wouldBe_1 : decode cX10_wouldBe 1 = .ok (.iload_n 1, 1) := by decide +kernel
theorem dX10_wouldBe_2 : decode cX10_wouldBe 2 = .ok (.iload_n 2, 1) := by decide +kernel
theorem dX10_wouldBe_3 : decode cX10_wouldBe 3 = .ok (.iload_n 3, 1) := by decide +kernel
theorem dX10_wouldBe_4 : decode cX10_wouldBe 4 = .ok (.invokevirtual 235, 3) := by decide +kernel
theorem dX10_wouldBe_7 : decode cX10_wouldBe 7 = .ok (.iload 4, 2) := by decide +kernel
theorem dX10_wouldBe_9 : decode cX10_wouldBe 9 = .ok (.iconst 0, 1) := by decide +kernel
theorem dX10_wouldBe_10 : decode cX10_wouldBe 10 = .ok (.invokestatic 239, 3) := by decide +kernel
theorem dX10_wouldBe_13 : decode cX10_wouldBe 13 = .ok (.aload_n 0, 1) := by decide +kernel
theorem dX10_wouldBe_14 : decode cX10_wouldBe 14 = .ok (.getfield 16, 3) := by decide +kernel
theorem dX10_wouldBe_17 : decode cX10_wouldBe 17 = .ok (.aload_n 0, 1) := by decide +kernel
theorem dX10_wouldBe_18 : decode cX10_wouldBe 18 = .ok (.getfield 12, 3) := by decide +kernel
theorem dX10_wouldBe_21 : decode cX10_wouldBe 21 = .ok (.invokevirtual 109, 3) := by decide +kernel
theorem dX10_wouldBe_24 : decode cX10_wouldBe 24 = .ok (.aload_n 0, 1) := by decide +kernel
theorem dX10_wouldBe_25 : decode cX10_wouldBe 25 = .ok (.getfield 16, 3) := by decide +kernel
theorem dX10_wouldBe_28 : decode cX10_wouldBe 28 = .ok (.iload_n 1, 1) := by decide +kernel
theorem dX10_wouldBe_29 : decode cX10_wouldBe 29 = .ok (.iload_n 2, 1) := by decide +kernel
theorem dX10_wouldBe_30 : decode cX10_wouldBe 30 = .ok (.iload_n 3, 1) := by decide +kernel
theorem dX10_wouldBe_31 : decode cX10_wouldBe 31 = .ok (.invokevirtual 242, 3) := by decide +kernel
theorem dX10_wouldBe_34 : decode cX10_wouldBe 34 = .ok (.istore 5, 2) := by decide +kernel
theorem dX10_wouldBe_36 : decode cX10_wouldBe 36 = .ok (.iload 5, 2) := by decide +kernel
theorem dX10_wouldBe_38 : decode cX10_wouldBe 38 = .ok (.iconst (-1), 1) := by decide +kernel
theorem dX10_wouldBe_39 : decode cX10_wouldBe 39 = .ok (.if_icmp .ne 5, 3) := by decide +kernel
theorem dX10_wouldBe_42 : decode cX10_wouldBe 42 = .ok (.iconst (-1), 1) := by decide +kernel
theorem dX10_wouldBe_43 : decode cX10_wouldBe 43 = .ok (.ireturn, 1) := by decide +kernel
theorem dX10_wouldBe_44 : decode cX10_wouldBe 44 = .ok (.iconst 0, 1) := by decide +kernel
theorem dX10_wouldBe_45 : decode cX10_wouldBe 45 = .ok (.istore 6, 2) := by decide +kernel
theorem dX10_wouldBe_47 : decode cX10_wouldBe 47 = .ok (.iload 6, 2) := by decide +kernel
theorem dX10_wouldBe_49 : decode cX10_wouldBe 49 = .ok (.iload 4, 2) := by decide +kernel
theorem dX10_wouldBe_51 : decode cX10_wouldBe 51 = .ok (.if_icmp .ge 20, 3) := by decide +kernel
theorem dX10_wouldBe_54 : decode cX10_wouldBe 54 = .ok (.aload_n 0, 1) := by decide +kernel
theorem dX10_wouldBe_55 : decode cX10_wouldBe 55 = .ok (.getfield 47, 3) := by decide +kernel
theorem dX10_wouldBe_58 : decode cX10_wouldBe 58 = .ok (.aload_n 0, 1) := by decide +kernel
theorem dX10_wouldBe_59 : decode cX10_wouldBe 59 = .ok (.getfield 16, 3) := by decide +kernel
theorem dX10_wouldBe_62 : decode cX10_wouldBe 62 = .ok (.invokevirtual 245, 3) := by decide +kernel
theorem dX10_wouldBe_65 : decode cX10_wouldBe 65 = .ok (.iinc 6 1, 3) := by decide +kernel
theorem dX10_wouldBe_68 : decode cX10_wouldBe 68 = .ok (.goto (-21), 3) := by decide +kernel
theorem dX10_wouldBe_71 : decode cX10_wouldBe 71 = .ok (.aload_n 0, 1) := by decide +kernel
theorem dX10_wouldBe_72 : decode cX10_wouldBe 72 = .ok (.getfield 16, 3) := by decide +kernel
theorem dX10_wouldBe_75 : decode cX10_wouldBe 75 = .ok (.getfield 140, 3) := by decide +kernel
theorem dX10_wouldBe_78 : decode cX10_wouldBe 78 = .ok (.iload 5, 2) := by decide +kernel
theorem dX10_wouldBe_80 : decode cX10_wouldBe 80 = .ok (.iconst 3, 1) := by decide +kernel
theorem dX10_wouldBe_81 : decode cX10_wouldBe 81 = .ok (.invokevirtual 183, 3) := by decide +kernel
theorem dX10_wouldBe_84 : decode cX10_wouldBe 84 = .ok (.ireturn, 1) := by decide +kernel
theorem dX10_wouldArrive_0 : decode cX10_wouldArrive 0 = .ok (.aload_n 0, 1) := by decide +kernel
theorem dX10_wouldArrive_1 : decode cX10_wouldArrive 1 = .ok (.iload_n 1, 1) := by decide +kernel
theorem dX10_wouldArrive_2 : decode cX10_wouldArrive 2 = .ok (.iload_n 2, 1) := by decide +kernel
theorem dX10_wouldArrive_3 : decode cX10_wouldArrive 3 = .ok (.iload_n 3, 1) := by decide +kernel
theorem dX10_wouldArrive_4 : decode cX10_wouldArrive 4 = .ok (.invokevirtual 235, 3) := by decide +kernel
theorem dX10_wouldArrive_7 : decode cX10_wouldArrive 7 = .ok (.aload_n 0, 1) := by decide +kernel
theorem dX10_wouldArrive_8 : decode cX10_wouldArrive 8 = .ok (.iconst 0, 1) := by decide +kernel
theorem dX10_wouldArrive_9 : decode cX10_wouldArrive 9 = .ok (.iload_n 1, 1) := by decide +kernel
theorem dX10_wouldArrive_10 : decode cX10_wouldArrive 10 = .ok (.iload_n 2, 1) := by decide +kernel
theorem dX10_wouldArrive_11 : decode cX10_wouldArrive 11 = .ok (.iload_n 3, 1) := by decide +kernel
theorem dX10_wouldArrive_12 : decode cX10_wouldArrive 12 = .ok (.invokevirtual 248, 3) := by decide +kernel
theorem dX10_wouldArrive_15 : decode cX10_wouldArrive 15 = .ok (.ireturn, 1) := by decide +kernel
theorem dX10_bestDelay_0 : decode cX10_bestDelay 0 = .ok (.aload_n 0, 1) := by decide +kernel
theorem dX10_bestDelay_1 : decode cX10_bestDelay 1 = .ok (.iload_n 1, 1) := by decide +kernel
theorem dX10_bestDelay_2 : decode cX10_bestDelay 2 = .ok (.iload_n 2, 1) := by decide +kernel
theorem dX10_bestDelay_3 : decode cX10_bestDelay 3 = .ok (.iload_n 3, 1) := by decide +kernel
theorem dX10_bestDelay_4 : decode cX10_bestDelay 4 = .ok (.invokevirtual 235, 3) := by decide +kernel
theorem dX10_bestDelay_7 : decode cX10_bestDelay 7 = .ok (.iconst 0, 1) := by decide +kernel
theorem dX10_bestDelay_8 : decode cX10_bestDelay 8 = .ok (.istore 4, 2) := by decide +kernel
theorem dX10_bestDelay_10 : decode cX10_bestDelay 10 = .ok (.iload 4, 2) := by decide +kernel
theorem dX10_bestDelay_12 : decode cX10_bestDelay 12 = .ok (.bipush 15, 2) := by decide +kernel
theorem dX10_bestDelay_14 : decode cX10_bestDelay 14 = .ok (.if_icmp .gt 25, 3) := by decide +kernel
theorem dX10_bestDelay_17 : decode cX10_bestDelay 17 = .ok (.aload_n 0, 1) := by decide +kernel
theorem dX10_bestDelay_18 : decode cX10_bestDelay 18 = .ok (.iload 4, 2) := by decide +kernel
theorem dX10_bestDelay_20 : decode cX10_bestDelay 20 = .ok (.iload_n 1, 1) := by decide +kernel
theorem dX10_bestDelay_21 : decode cX10_bestDelay 21 = .ok (.iload_n 2, 1) := by decide +kernel
theorem dX10_bestDelay_22 : decode cX10_bestDelay 22 = .ok (.iload_n 3, 1) := by decide +kernel
theorem dX10_bestDelay_23 : decode cX10_bestDelay 23 = .ok (.invokevirtual 248, 3) := by decide +kernel
theorem dX10_bestDelay_26 : decode cX10_bestDelay 26 = .ok (.iconst (-1), 1) := by decide +kernel
theorem dX10_bestDelay_27 : decode cX10_bestDelay 27 = .ok (.if_icmp .eq 6, 3) := by decide +kernel
theorem dX10_bestDelay_30 : decode cX10_bestDelay 30 = .ok (.iload 4, 2) := by decide +kernel
theorem dX10_bestDelay_32 : decode cX10_bestDelay 32 = .ok (.ireturn, 1) := by decide +kernel
theorem dX10_bestDelay_33 : decode cX10_bestDelay 33 = .ok (.iinc 4 1, 3) := by decide +kernel
theorem dX10_bestDelay_36 : decode cX10_bestDelay 36 = .ok (.goto (-26), 3) := by decide +kernel
theorem dX10_bestDelay_39 : decode cX10_bestDelay 39 = .ok (.iconst (-1), 1) := by decide +kernel
theorem dX10_bestDelay_40 : decode cX10_bestDelay 40 = .ok (.ireturn, 1) := by decide +kernel
theorem dX10_arrivalAfter_0 : decode cX10_arrivalAfter 0 = .ok (.aload_n 0, 1) := by decide +kernel
theorem dX10_arrivalAfter_1 : decode cX10_arrivalAfter 1 = .ok (.getfield 16, 3) := by decide +kernel
theorem dX10_arrivalAfter_4 : decode cX10_arrivalAfter 4 = .ok (.aload_n 0, 1) := by decide +kernel
theorem dX10_arrivalAfter_5 : decode cX10_arrivalAfter 5 = .ok (.getfield 12, 3) := by decide +kernel
theorem dX10_arrivalAfter_8 : decode cX10_arrivalAfter 8 = .ok (.invokevirtual 109, 3) := by decide +kernel
theorem dX10_arrivalAfter_11 : decode cX10_arrivalAfter 11 = .ok (.iconst 0, 1) := by decide +kernel
theorem dX10_arrivalAfter_12 : decode cX10_arrivalAfter 12 = .ok (.istore 5, 2) := by decide +kernel
theorem dX10_arrivalAfter_14 : decode cX10_arrivalAfter 14 = .ok (.iload 5, 2) := by decide +kernel
theorem dX10_arrivalAfter_16 : decode cX10_arrivalAfter 16 = .ok (.iload_n 1, 1) := by decide +kernel
theorem dX10_arrivalAfter_17 : decode cX10_arrivalAfter 17 = .ok (.if_icmp .ge 20, 3) := by decide +kernel
theorem dX10_arrivalAfter_20 : decode cX10_arrivalAfter 20 = .ok (.aload_n 0, 1) := by decide +kernel
theorem dX10_arrivalAfter_21 : decode cX10_arrivalAfter 21 = .ok (.getfield 47, 3) := by decide +kernel
theorem dX10_arrivalAfter_24 : decode cX10_arrivalAfter 24 = .ok (.aload_n 0, 1) := by decide +kernel
theorem dX10_arrivalAfter_25 : decode cX10_arrivalAfter 25 = .ok (.getfield 16, 3) := by decide +kernel
theorem dX10_arrivalAfter_28 : decode cX10_arrivalAfter 28 = .ok (.invokevirtual 245, 3) := by decide +kernel
theorem dX10_arrivalAfter_31 : decode cX10_arrivalAfter 31 = .ok (.iinc 5 1, 3) := by decide +kernel
theorem dX10_arrivalAfter_34 : decode cX10_arrivalAfter 34 = .ok (.goto (-20), 3) := by decide +kernel
theorem dX10_arrivalAfter_37 : decode cX10_arrivalAfter 37 = .ok (.aload_n 0, 1) := by decide +kernel
theorem dX10_arrivalAfter_38 : decode cX10_arrivalAfter 38 = .ok (.getfield 16, 3) := by decide +kernel
theorem dX10_arrivalAfter_41 : decode cX10_arrivalAfter 41 = .ok (.iload_n 2, 1) := by decide +kernel
theorem dX10_arrivalAfter_42 : decode cX10_arrivalAfter 42 = .ok (.iload_n 3, 1) := by decide +kernel
theorem dX10_arrivalAfter_43 : decode cX10_arrivalAfter 43 = .ok (.iload 4, 2) := by decide +kernel
theorem dX10_arrivalAfter_45 : decode cX10_arrivalAfter 45 = .ok (.invokevirtual 242, 3) := by decide +kernel
theorem dX10_arrivalAfter_48 : decode cX10_arrivalAfter 48 = .ok (.istore 5, 2) := by decide +kernel
theorem dX10_arrivalAfter_50 : decode cX10_arrivalAfter 50 = .ok (.iload 5, 2) := by decide +kernel
theorem dX10_arrivalAfter_52 : decode cX10_arrivalAfter 52 = .ok (.iconst (-1), 1) := by decide +kernel
theorem dX10_arrivalAfter_53 : decode cX10_arrivalAfter 53 = .ok (.if_icmp .ne 5, 3) := by decide +kernel
theorem dX10_arrivalAfter_56 : decode cX10_arrivalAfter 56 = .ok (.iconst (-1), 1) := by decide +kernel
theorem dX10_arrivalAfter_57 : decode cX10_arrivalAfter 57 = .ok (.ireturn, 1) := by decide +kernel
theorem dX10_arrivalAfter_58 : decode cX10_arrivalAfter 58 = .ok (.iconst 0, 1) := by decide +kernel
theorem dX10_arrivalAfter_59 : decode cX10_arrivalAfter 59 = .ok (.istore 6, 2) := by decide +kernel
theorem dX10_arrivalAfter_61 : decode cX10_arrivalAfter 61 = .ok (.iload 6, 2) := by decide +kernel
theorem dX10_arrivalAfter_63 : decode cX10_arrivalAfter 63 = .ok (.bipush 30, 2) := by decide +kernel
theorem dX10_arrivalAfter_65 : decode cX10_arrivalAfter 65 = .ok (.if_icmp .gt 50, 3) := by decide +kernel
theorem dX10_arrivalAfter_68 : decode cX10_arrivalAfter 68 = .ok (.aload_n 0, 1) := by decide +kernel
theorem dX10_arrivalAfter_69 : decode cX10_arrivalAfter 69 = .ok (.getfield 47, 3) := by decide +kernel
theorem dX10_arrivalAfter_72 : decode cX10_arrivalAfter 72 = .ok (.aload_n 0, 1) := by decide +kernel
theorem dX10_arrivalAfter_73 : decode cX10_arrivalAfter 73 = .ok (.getfield 16, 3) := by decide +kernel
theorem dX10_arrivalAfter_76 : decode cX10_arrivalAfter 76 = .ok (.invokevirtual 245, 3) := by decide +kernel
theorem dX10_arrivalAfter_79 : decode cX10_arrivalAfter 79 = .ok (.aload_n 0, 1) := by decide +kernel
theorem dX10_arrivalAfter_80 : decode cX10_arrivalAfter 80 = .ok (.getfield 16, 3) := by decide +kernel
theorem dX10_arrivalAfter_83 : decode cX10_arrivalAfter 83 = .ok (.getfield 140, 3) := by decide +kernel
theorem dX10_arrivalAfter_86 : decode cX10_arrivalAfter 86 = .ok (.iload 5, 2) := by decide +kernel
theorem dX10_arrivalAfter_88 : decode cX10_arrivalAfter 88 = .ok (.iconst 3, 1) := by decide +kernel
theorem dX10_arrivalAfter_89 : decode cX10_arrivalAfter 89 = .ok (.invokevirtual 183, 3) := by decide +kernel
theorem dX10_arrivalAfter_92 : decode cX10_arrivalAfter 92 = .ok (.ifCond .eq 17, 3) := by decide +kernel
theorem dX10_arrivalAfter_95 : decode cX10_arrivalAfter 95 = .ok (.aload_n 0, 1) := by decide +kernel
theorem dX10_arrivalAfter_96 : decode cX10_arrivalAfter 96 = .ok (.getfield 16, 3) := by decide +kernel
theorem dX10_arrivalAfter_99 : decode cX10_arrivalAfter 99 = .ok (.getfield 140, 3) := by decide +kernel
theorem dX10_arrivalAfter_102 : decode cX10_arrivalAfter 102 = .ok (.iload 5, 2) := by decide +kernel
theorem dX10_arrivalAfter_104 : decode cX10_arrivalAfter 104 = .ok (.iconst 5, 1) := by decide +kernel
theorem dX10_arrivalAfter_105 : decode cX10_arrivalAfter 105 = .ok (.invokevirtual 183, 3) := by decide +kernel
theorem dX10_arrivalAfter_108 : decode cX10_arrivalAfter 108 = .ok (.ireturn, 1) := by decide +kernel
theorem dX10_arrivalAfter_109 : decode cX10_arrivalAfter 109 = .ok (.iinc 6 1, 3) := by decide +kernel
theorem dX10_arrivalAfter_112 : decode cX10_arrivalAfter 112 = .ok (.goto (-51), 3) := by decide +kernel
theorem dX10_arrivalAfter_115 : decode cX10_arrivalAfter 115 = .ok (.iconst (-1), 1) := by decide +kernel
theorem dX10_arrivalAfter_116 : decode cX10_arrivalAfter 116 = .ok (.ireturn, 1) := by decide +kernel
theorem dX10_failing_0 : decode cX10_failing 0 = .ok (.iload_n 1, 1) := by decide +kernel
theorem dX10_failing_1 : decode cX10_failing 1 = .ok (.iconst 0, 1) := by decide +kernel
theorem dX10_failing_2 : decode cX10_failing 2 = .ok (.invokestatic 239, 3) := by decide +kernel
theorem dX10_failing_5 : decode cX10_failing 5 = .ok (.aload_n 0, 1) := by decide +kernel
theorem dX10_failing_6 : decode cX10_failing 6 = .ok (.getfield 16, 3) := by decide +kernel
theorem dX10_failing_9 : decode cX10_failing 9 = .ok (.aload_n 0, 1) := by decide +kernel
theorem dX10_failing_10 : decode cX10_failing 10 = .ok (.getfield 12, 3) := by decide +kernel
theorem dX10_failing_13 : decode cX10_failing 13 = .ok (.invokevirtual 109, 3) := by decide +kernel
theorem dX10_failing_16 : decode cX10_failing 16 = .ok (.iconst 0, 1) := by decide +kernel
theorem dX10_failing_17 : decode cX10_failing 17 = .ok (.istore_n 2, 1) := by decide +kernel
theorem dX10_failing_18 : decode cX10_failing 18 = .ok (.iload_n 2, 1) := by decide +kernel
theorem dX10_failing_19 : decode cX10_failing 19 = .ok (.iload_n 1, 1) := by decide +kernel
theorem dX10_failing_20 : decode cX10_failing 20 = .ok (.if_icmp .ge 20, 3) := by decide +kernel
theorem dX10_failing_23 : decode cX10_failing 23 = .ok (.aload_n 0, 1) := by decide +kernel
theorem dX10_failing_24 : decode cX10_failing 24 = .ok (.getfield 47, 3) := by decide +kernel
theorem dX10_failing_27 : decode cX10_failing 27 = .ok (.aload_n 0, 1) := by decide +kernel
theorem dX10_failing_28 : decode cX10_failing 28 = .ok (.getfield 16, 3) := by decide +kernel
theorem dX10_failing_31 : decode cX10_failing 31 = .ok (.invokevirtual 245, 3) := by decide +kernel
theorem dX10_failing_34 : decode cX10_failing 34 = .ok (.iinc 2 1, 3) := by decide +kernel
theorem dX10_failing_37 : decode cX10_failing 37 = .ok (.goto (-19), 3) := by decide +kernel
theorem dX10_failing_40 : decode cX10_failing 40 = .ok (.iconst 0, 1) := by decide +kernel
theorem dX10_failing_41 : decode cX10_failing 41 = .ok (.istore_n 2, 1) := by decide +kernel
theorem dX10_failing_42 : decode cX10_failing 42 = .ok (.aload_n 0, 1) := by decide +kernel
theorem dX10_failing_43 : decode cX10_failing 43 = .ok (.getfield 12, 3) := by decide +kernel
theorem dX10_failing_46 : decode cX10_failing 46 = .ok (.getfield 140, 3) := by decide +kernel
theorem dX10_failing_49 : decode cX10_failing 49 = .ok (.invokevirtual 126, 3) := by decide +kernel
theorem dX10_failing_52 : decode cX10_failing 52 = .ok (.istore_n 3, 1) := by decide +kernel
theorem dX10_failing_53 : decode cX10_failing 53 = .ok (.iconst 0, 1) := by decide +kernel
theorem dX10_failing_54 : decode cX10_failing 54 = .ok (.istore 4, 2) := by decide +kernel
theorem dX10_failing_56 : decode cX10_failing 56 = .ok (.iload 4, 2) := by decide +kernel
theorem dX10_failing_58 : decode cX10_failing 58 = .ok (.iload_n 3, 1) := by decide +kernel
theorem dX10_failing_59 : decode cX10_failing 59 = .ok (.if_icmp .ge 67, 3) := by decide +kernel
theorem dX10_failing_62 : decode cX10_failing 62 = .ok (.aload_n 0, 1) := by decide +kernel
theorem dX10_failing_63 : decode cX10_failing 63 = .ok (.getfield 16, 3) := by decide +kernel
theorem dX10_failing_66 : decode cX10_failing 66 = .ok (.getfield 140, 3) := by decide +kernel
theorem dX10_failing_69 : decode cX10_failing 69 = .ok (.iload 4, 2) := by decide +kernel
theorem dX10_failing_71 : decode cX10_failing 71 = .ok (.iconst 3, 1) := by decide +kernel
theorem dX10_failing_72 : decode cX10_failing 72 = .ok (.invokevirtual 183, 3) := by decide +kernel
theorem dX10_failing_75 : decode cX10_failing 75 = .ok (.istore 5, 2) := by decide +kernel
theorem dX10_failing_77 : decode cX10_failing 77 = .ok (.iload 5, 2) := by decide +kernel
theorem dX10_failing_79 : decode cX10_failing 79 = .ok (.iconst 4, 1) := by decide +kernel
theorem dX10_failing_80 : decode cX10_failing 80 = .ok (.if_icmp .eq 9, 3) := by decide +kernel
theorem dX10_failing_83 : decode cX10_failing 83 = .ok (.iload 5, 2) := by decide +kernel
theorem dX10_failing_85 : decode cX10_failing 85 = .ok (.iconst 5, 1) := by decide +kernel
theorem dX10_failing_86 : decode cX10_failing 86 = .ok (.if_icmp .ne 7, 3) := by decide +kernel
theorem dX10_failing_89 : decode cX10_failing 89 = .ok (.iconst 1, 1) := by decide +kernel
theorem dX10_failing_90 : decode cX10_failing 90 = .ok (.goto 4, 3) := by decide +kernel
theorem dX10_failing_93 : decode cX10_failing 93 = .ok (.iconst 0, 1) := by decide +kernel
theorem dX10_failing_94 : decode cX10_failing 94 = .ok (.istore 6, 2) := by decide +kernel
theorem dX10_failing_96 : decode cX10_failing 96 = .ok (.iload 6, 2) := by decide +kernel
theorem dX10_failing_98 : decode cX10_failing 98 = .ok (.ifCond .eq 22, 3) := by decide +kernel
theorem dX10_failing_101 : decode cX10_failing 101 = .ok (.aload_n 0, 1) := by decide +kernel
theorem dX10_failing_102 : decode cX10_failing 102 = .ok (.getfield 12, 3) := by decide +kernel
theorem dX10_failing_105 : decode cX10_failing 105 = .ok (.getfield 140, 3) := by decide +kernel
theorem dX10_failing_108 : decode cX10_failing 108 = .ok (.iload 4, 2) := by decide +kernel
theorem dX10_failing_110 : decode cX10_failing 110 = .ok (.iconst 3, 1) := by decide +kernel
theorem dX10_failing_111 : decode cX10_failing 111 = .ok (.invokevirtual 183, 3) := by decide +kernel
theorem dX10_failing_114 : decode cX10_failing 114 = .ok (.ifCond .ne 6, 3) := by decide +kernel
theorem dX10_failing_117 : decode cX10_failing 117 = .ok (.iinc 2 1, 3) := by decide +kernel
theorem dX10_failing_120 : decode cX10_failing 120 = .ok (.iinc 4 1, 3) := by decide +kernel
theorem dX10_failing_123 : decode cX10_failing 123 = .ok (.goto (-67), 3) := by decide +kernel
theorem dX10_failing_126 : decode cX10_failing 126 = .ok (.iload_n 2, 1) := by decide +kernel
theorem dX10_failing_127 : decode cX10_failing 127 = .ok (.ireturn, 1) := by decide +kernel
theorem dX10_meanDelay_0 : decode cX10_meanDelay 0 = .ok (.iconst 0, 1) := by decide +kernel
theorem dX10_meanDelay_1 : decode cX10_meanDelay 1 = .ok (.istore_n 1, 1) := by decide +kernel
theorem dX10_meanDelay_2 : decode cX10_meanDelay 2 = .ok (.iconst 0, 1) := by decide +kernel
theorem dX10_meanDelay_3 : decode cX10_meanDelay 3 = .ok (.istore_n 2, 1) := by decide +kernel
theorem dX10_meanDelay_4 : decode cX10_meanDelay 4 = .ok (.aload_n 0, 1) := by decide +kernel
theorem dX10_meanDelay_5 : decode cX10_meanDelay 5 = .ok (.getfield 12, 3) := by decide +kernel
theorem dX10_meanDelay_8 : decode cX10_meanDelay 8 = .ok (.getfield 140, 3) := by decide +kernel
theorem dX10_meanDelay_11 : decode cX10_meanDelay 11 = .ok (.invokevirtual 126, 3) := by decide +kernel
theorem dX10_meanDelay_14 : decode cX10_meanDelay 14 = .ok (.istore_n 3, 1) := by decide +kernel
theorem dX10_meanDelay_15 : decode cX10_meanDelay 15 = .ok (.iconst 0, 1) := by decide +kernel
theorem dX10_meanDelay_16 : decode cX10_meanDelay 16 = .ok (.istore 4, 2) := by decide +kernel
theorem dX10_meanDelay_18 : decode cX10_meanDelay 18 = .ok (.iload 4, 2) := by decide +kernel
theorem dX10_meanDelay_20 : decode cX10_meanDelay 20 = .ok (.iload_n 3, 1) := by decide +kernel
theorem dX10_meanDelay_21 : decode cX10_meanDelay 21 = .ok (.if_icmp .ge 52, 3) := by decide +kernel
theorem dX10_meanDelay_24 : decode cX10_meanDelay 24 = .ok (.aload_n 0, 1) := by decide +kernel
theorem dX10_meanDelay_25 : decode cX10_meanDelay 25 = .ok (.getfield 12, 3) := by decide +kernel
theorem dX10_meanDelay_28 : decode cX10_meanDelay 28 = .ok (.getfield 140, 3) := by decide +kernel
theorem dX10_meanDelay_31 : decode cX10_meanDelay 31 = .ok (.iload 4, 2) := by decide +kernel
theorem dX10_meanDelay_33 : decode cX10_meanDelay 33 = .ok (.iconst 5, 1) := by decide +kernel
theorem dX10_meanDelay_34 : decode cX10_meanDelay 34 = .ok (.invokevirtual 183, 3) := by decide +kernel
theorem dX10_meanDelay_37 : decode cX10_meanDelay 37 = .ok (.istore 5, 2) := by decide +kernel
theorem dX10_meanDelay_39 : decode cX10_meanDelay 39 = .ok (.iload 5, 2) := by decide +kernel
theorem dX10_meanDelay_41 : decode cX10_meanDelay 41 = .ok (.iconst (-1), 1) := by decide +kernel
theorem dX10_meanDelay_42 : decode cX10_meanDelay 42 = .ok (.if_icmp .eq 25, 3) := by decide +kernel
theorem dX10_meanDelay_45 : decode cX10_meanDelay 45 = .ok (.iload_n 1, 1) := by decide +kernel
theorem dX10_meanDelay_46 : decode cX10_meanDelay 46 = .ok (.iload 5, 2) := by decide +kernel
theorem dX10_meanDelay_48 : decode cX10_meanDelay 48 = .ok (.aload_n 0, 1) := by decide +kernel
theorem dX10_meanDelay_49 : decode cX10_meanDelay 49 = .ok (.getfield 12, 3) := by decide +kernel
theorem dX10_meanDelay_52 : decode cX10_meanDelay 52 = .ok (.getfield 140, 3) := by decide +kernel
theorem dX10_meanDelay_55 : decode cX10_meanDelay 55 = .ok (.iload 4, 2) := by decide +kernel
theorem dX10_meanDelay_57 : decode cX10_meanDelay 57 = .ok (.iconst 4, 1) := by decide +kernel
theorem dX10_meanDelay_58 : decode cX10_meanDelay 58 = .ok (.invokevirtual 183, 3) := by decide +kernel
theorem dX10_meanDelay_61 : decode cX10_meanDelay 61 = .ok (.isub, 1) := by decide +kernel
theorem dX10_meanDelay_62 : decode cX10_meanDelay 62 = .ok (.iadd, 1) := by decide +kernel
theorem dX10_meanDelay_63 : decode cX10_meanDelay 63 = .ok (.istore_n 1, 1) := by decide +kernel
theorem dX10_meanDelay_64 : decode cX10_meanDelay 64 = .ok (.iinc 2 1, 3) := by decide +kernel
theorem dX10_meanDelay_67 : decode cX10_meanDelay 67 = .ok (.iinc 4 1, 3) := by decide +kernel
theorem dX10_meanDelay_70 : decode cX10_meanDelay 70 = .ok (.goto (-52), 3) := by decide +kernel
theorem dX10_meanDelay_73 : decode cX10_meanDelay 73 = .ok (.iload_n 2, 1) := by decide +kernel
theorem dX10_meanDelay_74 : decode cX10_meanDelay 74 = .ok (.ifCond .le 11, 3) := by decide +kernel
theorem dX10_meanDelay_77 : decode cX10_meanDelay 77 = .ok (.iload_n 1, 1) := by decide +kernel
theorem dX10_meanDelay_78 : decode cX10_meanDelay 78 = .ok (.i2d, 1) := by decide +kernel
theorem dX10_meanDelay_79 : decode cX10_meanDelay 79 = .ok (.iload_n 2, 1) := by decide +kernel
theorem dX10_meanDelay_80 : decode cX10_meanDelay 80 = .ok (.i2d, 1) := by decide +kernel
theorem dX10_meanDelay_81 : decode cX10_meanDelay 81 = .ok (.ddiv, 1) := by decide +kernel
theorem dX10_meanDelay_82 : decode cX10_meanDelay 82 = .ok (.goto 4, 3) := by decide +kernel
theorem dX10_meanDelay_85 : decode cX10_meanDelay 85 = .ok (.dconst 0, 1) := by decide +kernel
theorem dX10_meanDelay_86 : decode cX10_meanDelay 86 = .ok (.dreturn, 1) := by decide +kernel
theorem dX10_success_0 : decode cX10_success 0 = .ok (.aload_n 0, 1) := by decide +kernel
theorem dX10_success_1 : decode cX10_success 1 = .ok (.getfield 12, 3) := by decide +kernel
theorem dX10_success_4 : decode cX10_success 4 = .ok (.getfield 140, 3) := by decide +kernel
theorem dX10_success_7 : decode cX10_success 7 = .ok (.invokevirtual 126, 3) := by decide +kernel
theorem dX10_success_10 : decode cX10_success 10 = .ok (.istore_n 1, 1) := by decide +kernel
theorem dX10_success_11 : decode cX10_success 11 = .ok (.iload_n 1, 1) := by decide +kernel
theorem dX10_success_12 : decode cX10_success 12 = .ok (.ifCond .le 18, 3) := by decide +kernel
theorem dX10_success_15 : decode cX10_success 15 = .ok (.aload_n 0, 1) := by decide +kernel
theorem dX10_success_16 : decode cX10_success 16 = .ok (.getfield 12, 3) := by decide +kernel
theorem dX10_success_19 : decode cX10_success 19 = .ok (.iconst 2, 1) := by decide +kernel
theorem dX10_success_20 : decode cX10_success 20 = .ok (.invokevirtual 193, 3) := by decide +kernel
theorem dX10_success_23 : decode cX10_success 23 = .ok (.i2f, 1) := by decide +kernel
theorem dX10_success_24 : decode cX10_success 24 = .ok (.iload_n 1, 1) := by decide +kernel
theorem dX10_success_25 : decode cX10_success 25 = .ok (.i2f, 1) := by decide +kernel
theorem dX10_success_26 : decode cX10_success 26 = .ok (.fdiv, 1) := by decide +kernel
theorem dX10_success_27 : decode cX10_success 27 = .ok (.goto 4, 3) := by decide +kernel
theorem dX10_success_30 : decode cX10_success 30 = .ok (.fconst 0, 1) := by decide +kernel
theorem dX10_success_31 : decode cX10_success 31 = .ok (.freturn, 1) := by decide +kernel
theorem dX10_pass_0 : decode cX10_pass 0 = .ok (.iload_n 1, 1) := by decide +kernel
theorem dX10_pass_1 : decode cX10_pass 1 = .ok (.iconst 1, 1) := by decide +kernel
theorem dX10_pass_2 : decode cX10_pass 2 = .ok (.invokestatic 239, 3) := by decide +kernel
theorem dX10_pass_5 : decode cX10_pass 5 = .ok (.aload_n 0, 1) := by decide +kernel
theorem dX10_pass_6 : decode cX10_pass 6 = .ok (.getfield 12, 3) := by decide +kernel
theorem dX10_pass_9 : decode cX10_pass 9 = .ok (.getfield 143, 3) := by decide +kernel
theorem dX10_pass_12 : decode cX10_pass 12 = .ok (.sipush 500, 3) := by decide +kernel
theorem dX10_pass_15 : decode cX10_pass 15 = .ok (.iload_n 1, 1) := by decide +kernel
theorem dX10_pass_16 : decode cX10_pass 16 = .ok (.isub, 1) := by decide +kernel
theorem dX10_pass_17 : decode cX10_pass 17 = .ok (.if_icmp .le 6, 3) := by decide +kernel
theorem dX10_pass_20 : decode cX10_pass 20 = .ok (.bipush (-2), 2) := by decide +kernel
theorem dX10_pass_22 : decode cX10_pass 22 = .ok (.ireturn, 1) := by decide +kernel
theorem dX10_pass_23 : decode cX10_pass 23 = .ok (.aload_n 0, 1) := by decide +kernel
theorem dX10_pass_24 : decode cX10_pass 24 = .ok (.getfield 29, 3) := by decide +kernel
theorem dX10_pass_27 : decode cX10_pass 27 = .ok (.aload_n 0, 1) := by decide +kernel
theorem dX10_pass_28 : decode cX10_pass 28 = .ok (.getfield 12, 3) := by decide +kernel
theorem dX10_pass_31 : decode cX10_pass 31 = .ok (.invokevirtual 252, 3) := by decide +kernel
theorem dX10_pass_34 : decode cX10_pass 34 = .ok (.aload_n 0, 1) := by decide +kernel
theorem dX10_pass_35 : decode cX10_pass 35 = .ok (.getfield 12, 3) := by decide +kernel
theorem dX10_pass_38 : decode cX10_pass 38 = .ok (.getfield 149, 3) := by decide +kernel
theorem dX10_pass_41 : decode cX10_pass 41 = .ok (.invokevirtual 126, 3) := by decide +kernel
theorem dX10_pass_44 : decode cX10_pass 44 = .ok (.istore_n 2, 1) := by decide +kernel
theorem dX10_pass_45 : decode cX10_pass 45 = .ok (.iconst 0, 1) := by decide +kernel
theorem dX10_pass_46 : decode cX10_pass 46 = .ok (.istore_n 3, 1) := by decide +kernel
theorem dX10_pass_47 : decode cX10_pass 47 = .ok (.iload_n 3, 1) := by decide +kernel
theorem dX10_pass_48 : decode cX10_pass 48 = .ok (.iload_n 1, 1) := by decide +kernel
theorem dX10_pass_49 : decode cX10_pass 49 = .ok (.if_icmp .ge 31, 3) := by decide +kernel
theorem dX10_pass_52 : decode cX10_pass 52 = .ok (.aload_n 0, 1) := by decide +kernel
theorem dX10_pass_53 : decode cX10_pass 53 = .ok (.getfield 22, 3) := by decide +kernel
theorem dX10_pass_56 : decode cX10_pass 56 = .ok (.aload_n 0, 1) := by decide +kernel
theorem dX10_pass_57 : decode cX10_pass 57 = .ok (.getfield 12, 3) := by decide +kernel
theorem dX10_pass_60 : decode cX10_pass 60 = .ok (.invokevirtual 255, 3) := by decide +kernel
theorem dX10_pass_63 : decode cX10_pass 63 = .ok (.aload_n 0, 1) := by decide +kernel
theorem dX10_pass_64 : decode cX10_pass 64 = .ok (.getfield 47, 3) := by decide +kernel
theorem dX10_pass_67 : decode cX10_pass 67 = .ok (.aload_n 0, 1) := by decide +kernel
theorem dX10_pass_68 : decode cX10_pass 68 = .ok (.getfield 12, 3) := by decide +kernel
theorem dX10_pass_71 : decode cX10_pass 71 = .ok (.invokevirtual 245, 3) := by decide +kernel
theorem dX10_pass_74 : decode cX10_pass 74 = .ok (.iinc 3 1, 3) := by decide +kernel
theorem dX10_pass_77 : decode cX10_pass 77 = .ok (.goto (-30), 3) := by decide +kernel
theorem dX10_pass_80 : decode cX10_pass 80 = .ok (.aload_n 0, 1) := by decide +kernel
theorem dX10_pass_81 : decode cX10_pass 81 = .ok (.getfield 12, 3) := by decide +kernel
theorem dX10_pass_84 : decode cX10_pass 84 = .ok (.getfield 149, 3) := by decide +kernel
theorem dX10_pass_87 : decode cX10_pass 87 = .ok (.invokevirtual 126, 3) := by decide +kernel
theorem dX10_pass_90 : decode cX10_pass 90 = .ok (.iload_n 2, 1) := by decide +kernel
theorem dX10_pass_91 : decode cX10_pass 91 = .ok (.isub, 1) := by decide +kernel
theorem dX10_pass_92 : decode cX10_pass 92 = .ok (.ireturn, 1) := by decide +kernel
theorem dX10_send_0 : decode cX10_send 0 = .ok (.aload_n 0, 1) := by decide +kernel
theorem dX10_send_1 : decode cX10_send 1 = .ok (.iload_n 1, 1) := by decide +kernel
theorem dX10_send_2 : decode cX10_send 2 = .ok (.iload_n 2, 1) := by decide +kernel
theorem dX10_send_3 : decode cX10_send 3 = .ok (.iload_n 3, 1) := by decide +kernel
theorem dX10_send_4 : decode cX10_send 4 = .ok (.invokevirtual 235, 3) := by decide +kernel
theorem dX10_send_7 : decode cX10_send 7 = .ok (.aload_n 0, 1) := by decide +kernel
theorem dX10_send_8 : decode cX10_send 8 = .ok (.getfield 12, 3) := by decide +kernel
theorem dX10_send_11 : decode cX10_send 11 = .ok (.getfield 140, 3) := by decide +kernel
theorem dX10_send_14 : decode cX10_send 14 = .ok (.invokevirtual 126, 3) := by decide +kernel
theorem dX10_send_17 : decode cX10_send 17 = .ok (.bipush 40, 2) := by decide +kernel
theorem dX10_send_19 : decode cX10_send 19 = .ok (.if_icmp .lt 6, 3) := by decide +kernel
theorem dX10_send_22 : decode cX10_send 22 = .ok (.bipush (-3), 2) := by decide +kernel
theorem dX10_send_24 : decode cX10_send 24 = .ok (.ireturn, 1) := by decide +kernel
theorem dX10_send_25 : decode cX10_send 25 = .ok (.aload_n 0, 1) := by decide +kernel
theorem dX10_send_26 : decode cX10_send 26 = .ok (.getfield 29, 3) := by decide +kernel
theorem dX10_send_29 : decode cX10_send 29 = .ok (.aload_n 0, 1) := by decide +kernel
theorem dX10_send_30 : decode cX10_send 30 = .ok (.getfield 12, 3) := by decide +kernel
theorem dX10_send_33 : decode cX10_send 33 = .ok (.invokevirtual 252, 3) := by decide +kernel
theorem dX10_send_36 : decode cX10_send 36 = .ok (.aload_n 0, 1) := by decide +kernel
theorem dX10_send_37 : decode cX10_send 37 = .ok (.getfield 12, 3) := by decide +kernel
theorem dX10_send_40 : decode cX10_send 40 = .ok (.iload_n 1, 1) := by decide +kernel
theorem dX10_send_41 : decode cX10_send 41 = .ok (.iload_n 2, 1) := by decide +kernel
theorem dX10_send_42 : decode cX10_send 42 = .ok (.iload_n 3, 1) := by decide +kernel
theorem dX10_send_43 : decode cX10_send 43 = .ok (.invokevirtual 242, 3) := by decide +kernel
theorem dX10_send_46 : decode cX10_send 46 = .ok (.ireturn, 1) := by decide +kernel
theorem dX10_wall_0 : decode cX10_wall 0 = .ok (.aload_n 0, 1) := by decide +kernel
theorem dX10_wall_1 : decode cX10_wall 1 = .ok (.iload_n 1, 1) := by decide +kernel
theorem dX10_wall_2 : decode cX10_wall 2 = .ok (.iload_n 2, 1) := by decide +kernel
theorem dX10_wall_3 : decode cX10_wall 3 = .ok (.invokevirtual 196, 3) := by decide +kernel
theorem dX10_wall_6 : decode cX10_wall 6 = .ok (.aload_n 0, 1) := by decide +kernel
theorem dX10_wall_7 : decode cX10_wall 7 = .ok (.getfield 12, 3) := by decide +kernel
theorem dX10_wall_10 : decode cX10_wall 10 = .ok (.iload_n 1, 1) := by decide +kernel
theorem dX10_wall_11 : decode cX10_wall 11 = .ok (.iload_n 2, 1) := by decide +kernel
theorem dX10_wall_12 : decode cX10_wall 12 = .ok (.invokevirtual 258, 3) := by decide +kernel
theorem dX10_wall_15 : decode cX10_wall 15 = .ok (.ifCond .ne 28, 3) := by decide +kernel
theorem dX10_wall_18 : decode cX10_wall 18 = .ok (.aload_n 0, 1) := by decide +kernel
theorem dX10_wall_19 : decode cX10_wall 19 = .ok (.getfield 12, 3) := by decide +kernel
theorem dX10_wall_22 : decode cX10_wall 22 = .ok (.iload_n 1, 1) := by decide +kernel
theorem dX10_wall_23 : decode cX10_wall 23 = .ok (.iload_n 2, 1) := by decide +kernel
theorem dX10_wall_24 : decode cX10_wall 24 = .ok (.invokevirtual 261, 3) := by decide +kernel
theorem dX10_wall_27 : decode cX10_wall 27 = .ok (.iconst (-1), 1) := by decide +kernel
theorem dX10_wall_28 : decode cX10_wall 28 = .ok (.if_icmp .ne 15, 3) := by decide +kernel
theorem dX10_wall_31 : decode cX10_wall 31 = .ok (.aload_n 0, 1) := by decide +kernel
theorem dX10_wall_32 : decode cX10_wall 32 = .ok (.getfield 12, 3) := by decide +kernel
theorem dX10_wall_35 : decode cX10_wall 35 = .ok (.iload_n 1, 1) := by decide +kernel
theorem dX10_wall_36 : decode cX10_wall 36 = .ok (.iload_n 2, 1) := by decide +kernel
theorem dX10_wall_37 : decode cX10_wall 37 = .ok (.invokevirtual 264, 3) := by decide +kernel
theorem dX10_wall_40 : decode cX10_wall 40 = .ok (.ifCond .eq 6, 3) := by decide +kernel
theorem dX10_wall_43 : decode cX10_wall 43 = .ok (.bipush (-2), 2) := by decide +kernel
theorem dX10_wall_45 : decode cX10_wall 45 = .ok (.ireturn, 1) := by decide +kernel
theorem dX10_wall_46 : decode cX10_wall 46 = .ok (.aload_n 0, 1) := by decide +kernel
theorem dX10_wall_47 : decode cX10_wall 47 = .ok (.getfield 12, 3) := by decide +kernel
theorem dX10_wall_50 : decode cX10_wall 50 = .ok (.iload_n 1, 1) := by decide +kernel
theorem dX10_wall_51 : decode cX10_wall 51 = .ok (.iload_n 2, 1) := by decide +kernel
theorem dX10_wall_52 : decode cX10_wall 52 = .ok (.invokevirtual 267, 3) := by decide +kernel
theorem dX10_wall_55 : decode cX10_wall 55 = .ok (.ifCond .eq 6, 3) := by decide +kernel
theorem dX10_wall_58 : decode cX10_wall 58 = .ok (.bipush (-3), 2) := by decide +kernel
theorem dX10_wall_60 : decode cX10_wall 60 = .ok (.ireturn, 1) := by decide +kernel
theorem dX10_wall_61 : decode cX10_wall 61 = .ok (.aload_n 0, 1) := by decide +kernel
theorem dX10_wall_62 : decode cX10_wall 62 = .ok (.getfield 29, 3) := by decide +kernel
theorem dX10_wall_65 : decode cX10_wall 65 = .ok (.aload_n 0, 1) := by decide +kernel
theorem dX10_wall_66 : decode cX10_wall 66 = .ok (.getfield 12, 3) := by decide +kernel
theorem dX10_wall_69 : decode cX10_wall 69 = .ok (.invokevirtual 252, 3) := by decide +kernel
theorem dX10_wall_72 : decode cX10_wall 72 = .ok (.aload_n 0, 1) := by decide +kernel
theorem dX10_wall_73 : decode cX10_wall 73 = .ok (.getfield 12, 3) := by decide +kernel
theorem dX10_wall_76 : decode cX10_wall 76 = .ok (.iload_n 1, 1) := by decide +kernel
theorem dX10_wall_77 : decode cX10_wall 77 = .ok (.iload_n 2, 1) := by decide +kernel
theorem dX10_wall_78 : decode cX10_wall 78 = .ok (.invokevirtual 270, 3) := by decide +kernel
theorem dX10_wall_81 : decode cX10_wall 81 = .ok (.aload_n 0, 1) := by decide +kernel
theorem dX10_wall_82 : decode cX10_wall 82 = .ok (.getfield 38, 3) := by decide +kernel
theorem dX10_wall_85 : decode cX10_wall 85 = .ok (.invokevirtual 112, 3) := by decide +kernel
theorem dX10_wall_88 : decode cX10_wall 88 = .ok (.aload_n 0, 1) := by decide +kernel
theorem dX10_wall_89 : decode cX10_wall 89 = .ok (.getfield 12, 3) := by decide +kernel
theorem dX10_wall_92 : decode cX10_wall 92 = .ok (.getfield 146, 3) := by decide +kernel
theorem dX10_wall_95 : decode cX10_wall 95 = .ok (.ireturn, 1) := by decide +kernel
theorem dX10_movePicket_0 : decode cX10_movePicket 0 = .ok (.aload_n 0, 1) := by decide +kernel
theorem dX10_movePicket_1 : decode cX10_movePicket 1 = .ok (.getfield 12, 3) := by decide +kernel
theorem dX10_movePicket_4 : decode cX10_movePicket 4 = .ok (.getfield 137, 3) := by decide +kernel
theorem dX10_movePicket_7 : decode cX10_movePicket 7 = .ok (.iload_n 1, 1) := by decide +kernel
theorem dX10_movePicket_8 : decode cX10_movePicket 8 = .ok (.invokestatic 169, 3) := by decide +kernel
theorem dX10_movePicket_11 : decode cX10_movePicket 11 = .ok (.aload_n 0, 1) := by decide +kernel
theorem dX10_movePicket_12 : decode cX10_movePicket 12 = .ok (.iload_n 2, 1) := by decide +kernel
theorem dX10_movePicket_13 : decode cX10_movePicket 13 = .ok (.iload_n 3, 1) := by decide +kernel
theorem dX10_movePicket_14 : decode cX10_movePicket 14 = .ok (.invokevirtual 196, 3) := by decide +kernel
theorem dX10_movePicket_17 : decode cX10_movePicket 17 = .ok (.aload_n 0, 1) := by decide +kernel
theorem dX10_movePicket_18 : decode cX10_movePicket 18 = .ok (.getfield 29, 3) := by decide +kernel
theorem dX10_movePicket_21 : decode cX10_movePicket 21 = .ok (.aload_n 0, 1) := by decide +kernel
theorem dX10_movePicket_22 : decode cX10_movePicket 22 = .ok (.getfield 12, 3) := by decide +kernel
theorem dX10_movePicket_25 : decode cX10_movePicket 25 = .ok (.invokevirtual 252, 3) := by decide +kernel
theorem dX10_movePicket_28 : decode cX10_movePicket 28 = .ok (.aload_n 0, 1) := by decide +kernel
theorem dX10_movePicket_29 : decode cX10_movePicket 29 = .ok (.getfield 12, 3) := by decide +kernel
theorem dX10_movePicket_32 : decode cX10_movePicket 32 = .ok (.getfield 137, 3) := by decide +kernel
theorem dX10_movePicket_35 : decode cX10_movePicket 35 = .ok (.iload_n 1, 1) := by decide +kernel
theorem dX10_movePicket_36 : decode cX10_movePicket 36 = .ok (.iconst 0, 1) := by decide +kernel
theorem dX10_movePicket_37 : decode cX10_movePicket 37 = .ok (.iload_n 2, 1) := by decide +kernel
theorem dX10_movePicket_38 : decode cX10_movePicket 38 = .ok (.invokevirtual 273, 3) := by decide +kernel
theorem dX10_movePicket_41 : decode cX10_movePicket 41 = .ok (.aload_n 0, 1) := by decide +kernel
theorem dX10_movePicket_42 : decode cX10_movePicket 42 = .ok (.getfield 12, 3) := by decide +kernel
theorem dX10_movePicket_45 : decode cX10_movePicket 45 = .ok (.getfield 137, 3) := by decide +kernel
theorem dX10_movePicket_48 : decode cX10_movePicket 48 = .ok (.iload_n 1, 1) := by decide +kernel
theorem dX10_movePicket_49 : decode cX10_movePicket 49 = .ok (.iconst 1, 1) := by decide +kernel
theorem dX10_movePicket_50 : decode cX10_movePicket 50 = .ok (.iload_n 3, 1) := by decide +kernel
theorem dX10_movePicket_51 : decode cX10_movePicket 51 = .ok (.invokevirtual 273, 3) := by decide +kernel
theorem dX10_movePicket_54 : decode cX10_movePicket 54 = .ok (.aload_n 0, 1) := by decide +kernel
theorem dX10_movePicket_55 : decode cX10_movePicket 55 = .ok (.getfield 12, 3) := by decide +kernel
theorem dX10_movePicket_58 : decode cX10_movePicket 58 = .ok (.iload_n 1, 1) := by decide +kernel
theorem dX10_movePicket_59 : decode cX10_movePicket 59 = .ok (.aload_n 0, 1) := by decide +kernel
theorem dX10_movePicket_60 : decode cX10_movePicket 60 = .ok (.getfield 12, 3) := by decide +kernel
theorem dX10_movePicket_63 : decode cX10_movePicket 63 = .ok (.getfield 143, 3) := by decide +kernel
theorem dX10_movePicket_66 : decode cX10_movePicket 66 = .ok (.invokevirtual 187, 3) := by decide +kernel
theorem dX10_movePicket_69 : decode cX10_movePicket 69 = .ok (.ifCond .eq 7, 3) := by decide +kernel
theorem dX10_movePicket_72 : decode cX10_movePicket 72 = .ok (.iconst 1, 1) := by decide +kernel
theorem dX10_movePicket_73 : decode cX10_movePicket 73 = .ok (.goto 4, 3) := by decide +kernel
theorem dX10_movePicket_76 : decode cX10_movePicket 76 = .ok (.iconst 0, 1) := by decide +kernel
theorem dX10_movePicket_77 : decode cX10_movePicket 77 = .ok (.ireturn, 1) := by decide +kernel
theorem dX10_movePlan_0 : decode cX10_movePlan 0 = .ok (.aload_n 0, 1) := by decide +kernel
theorem dX10_movePlan_1 : decode cX10_movePlan 1 = .ok (.getfield 12, 3) := by decide +kernel
theorem dX10_movePlan_4 : decode cX10_movePlan 4 = .ok (.getfield 152, 3) := by decide +kernel
theorem dX10_movePlan_7 : decode cX10_movePlan 7 = .ok (.iload_n 1, 1) := by decide +kernel
theorem dX10_movePlan_8 : decode cX10_movePlan 8 = .ok (.invokestatic 169, 3) := by decide +kernel
theorem dX10_movePlan_11 : decode cX10_movePlan 11 = .ok (.iload_n 2, 1) := by decide +kernel
theorem dX10_movePlan_12 : decode cX10_movePlan 12 = .ok (.aload_n 0, 1) := by decide +kernel
theorem dX10_movePlan_13 : decode cX10_movePlan 13 = .ok (.getfield 12, 3) := by decide +kernel
theorem dX10_movePlan_16 : decode cX10_movePlan 16 = .ok (.getfield 143, 3) := by decide +kernel
theorem dX10_movePlan_19 : decode cX10_movePlan 19 = .ok (.if_icmp .lt 10, 3) := by decide +kernel
theorem dX10_movePlan_22 : decode cX10_movePlan 22 = .ok (.iload_n 2, 1) := by decide +kernel
theorem dX10_movePlan_23 : decode cX10_movePlan 23 = .ok (.sipush 500, 3) := by decide +kernel
theorem dX10_movePlan_26 : decode cX10_movePlan 26 = .ok (.if_icmp .lt 14, 3) := by decide +kernel
theorem dX10_movePlan_29 : decode cX10_movePlan 29 = .ok (.new 94, 3) := by decide +kernel
theorem dX10_movePlan_32 : decode cX10_movePlan 32 = .ok (.dup, 1) := by decide +kernel
theorem dX10_movePlan_33 : decode cX10_movePlan 33 = .ok (.ldc_w 276, 3) := by decide +kernel
theorem dX10_movePlan_36 : decode cX10_movePlan 36 = .ok (.invokespecial 98, 3) := by decide +kernel
theorem dX10_movePlan_39 : decode cX10_movePlan 39 = .ok (.athrow, 1) := by decide +kernel
theorem dX10_movePlan_40 : decode cX10_movePlan 40 = .ok (.aload_n 0, 1) := by decide +kernel
theorem dX10_movePlan_41 : decode cX10_movePlan 41 = .ok (.getfield 12, 3) := by decide +kernel
theorem dX10_movePlan_44 : decode cX10_movePlan 44 = .ok (.getfield 152, 3) := by decide +kernel
theorem dX10_movePlan_47 : decode cX10_movePlan 47 = .ok (.iload_n 1, 1) := by decide +kernel
theorem dX10_movePlan_48 : decode cX10_movePlan 48 = .ok (.iconst 3, 1) := by decide +kernel
theorem dX10_movePlan_49 : decode cX10_movePlan 49 = .ok (.invokevirtual 183, 3) := by decide +kernel
theorem dX10_movePlan_52 : decode cX10_movePlan 52 = .ok (.istore_n 3, 1) := by decide +kernel
theorem dX10_movePlan_53 : decode cX10_movePlan 53 = .ok (.iload_n 3, 1) := by decide +kernel
theorem dX10_movePlan_54 : decode cX10_movePlan 54 = .ok (.aload_n 0, 1) := by decide +kernel
theorem dX10_movePlan_55 : decode cX10_movePlan 55 = .ok (.getfield 12, 3) := by decide +kernel
theorem dX10_movePlan_58 : decode cX10_movePlan 58 = .ok (.getfield 143, 3) := by decide +kernel
theorem dX10_movePlan_61 : decode cX10_movePlan 61 = .ok (.if_icmp .ge 6, 3) := by decide +kernel
theorem dX10_movePlan_64 : decode cX10_movePlan 64 = .ok (.bipush (-2), 2) := by decide +kernel
theorem dX10_movePlan_66 : decode cX10_movePlan 66 = .ok (.ireturn, 1) := by decide +kernel
theorem dX10_movePlan_67 : decode cX10_movePlan 67 = .ok (.aload_n 0, 1) := by decide +kernel
theorem dX10_movePlan_68 : decode cX10_movePlan 68 = .ok (.getfield 29, 3) := by decide +kernel
theorem dX10_movePlan_71 : decode cX10_movePlan 71 = .ok (.aload_n 0, 1) := by decide +kernel
theorem dX10_movePlan_72 : decode cX10_movePlan 72 = .ok (.getfield 12, 3) := by decide +kernel
theorem dX10_movePlan_75 : decode cX10_movePlan 75 = .ok (.invokevirtual 252, 3) := by decide +kernel
theorem dX10_movePlan_78 : decode cX10_movePlan 78 = .ok (.aload_n 0, 1) := by decide +kernel
theorem dX10_movePlan_79 : decode cX10_movePlan 79 = .ok (.getfield 12, 3) := by decide +kernel
theorem dX10_movePlan_82 : decode cX10_movePlan 82 = .ok (.getfield 152, 3) := by decide +kernel
theorem dX10_movePlan_85 : decode cX10_movePlan 85 = .ok (.iload_n 1, 1) := by decide +kernel
theorem dX10_movePlan_86 : decode cX10_movePlan 86 = .ok (.iconst 3, 1) := by decide +kernel
theorem dX10_movePlan_87 : decode cX10_movePlan 87 = .ok (.iload_n 2, 1) := by decide +kernel
theorem dX10_movePlan_88 : decode cX10_movePlan 88 = .ok (.invokevirtual 273, 3) := by decide +kernel
theorem dX10_movePlan_91 : decode cX10_movePlan 91 = .ok (.iload_n 3, 1) := by decide +kernel
theorem dX10_movePlan_92 : decode cX10_movePlan 92 = .ok (.ireturn, 1) := by decide +kernel
theorem dX10_setPatience_0 : decode cX10_setPatience 0 = .ok (.iload_n 1, 1) := by decide +kernel
theorem dX10_setPatience_1 : decode cX10_setPatience 1 = .ok (.iconst 1, 1) := by decide +kernel
theorem dX10_setPatience_2 : decode cX10_setPatience 2 = .ok (.if_icmp .lt 9, 3) := by decide +kernel
theorem dX10_setPatience_5 : decode cX10_setPatience 5 = .ok (.iload_n 1, 1) := by decide +kernel
theorem dX10_setPatience_6 : decode cX10_setPatience 6 = .ok (.bipush 30, 2) := by decide +kernel
theorem dX10_setPatience_8 : decode cX10_setPatience 8 = .ok (.if_icmp .le 14, 3) := by decide +kernel
theorem dX10_setPatience_11 : decode cX10_setPatience 11 = .ok (.new 94, 3) := by decide +kernel
theorem dX10_setPatience_14 : decode cX10_setPatience 14 = .ok (.dup, 1) := by decide +kernel
theorem dX10_setPatience_15 : decode cX10_setPatience 15 = .ok (.ldc_w 278, 3) := by decide +kernel
theorem dX10_setPatience_18 : decode cX10_setPatience 18 = .ok (.invokespecial 98, 3) := by decide +kernel
theorem dX10_setPatience_21 : decode cX10_setPatience 21 = .ok (.athrow, 1) := by decide +kernel
theorem dX10_setPatience_22 : decode cX10_setPatience 22 = .ok (.aload_n 0, 1) := by decide +kernel
theorem dX10_setPatience_23 : decode cX10_setPatience 23 = .ok (.getfield 29, 3) := by decide +kernel
theorem dX10_setPatience_26 : decode cX10_setPatience 26 = .ok (.aload_n 0, 1) := by decide +kernel
theorem dX10_setPatience_27 : decode cX10_setPatience 27 = .ok (.getfield 12, 3) := by decide +kernel
theorem dX10_setPatience_30 : decode cX10_setPatience 30 = .ok (.invokevirtual 252, 3) := by decide +kernel
theorem dX10_setPatience_33 : decode cX10_setPatience 33 = .ok (.aload_n 0, 1) := by decide +kernel
theorem dX10_setPatience_34 : decode cX10_setPatience 34 = .ok (.getfield 12, 3) := by decide +kernel
theorem dX10_setPatience_37 : decode cX10_setPatience 37 = .ok (.getfield 155, 3) := by decide +kernel
theorem dX10_setPatience_40 : decode cX10_setPatience 40 = .ok (.istore_n 2, 1) := by decide +kernel
theorem dX10_setPatience_41 : decode cX10_setPatience 41 = .ok (.aload_n 0, 1) := by decide +kernel
theorem dX10_setPatience_42 : decode cX10_setPatience 42 = .ok (.getfield 12, 3) := by decide +kernel
theorem dX10_setPatience_45 : decode cX10_setPatience 45 = .ok (.iload_n 1, 1) := by decide +kernel
theorem dX10_setPatience_46 : decode cX10_setPatience 46 = .ok (.putfield 155, 3) := by decide +kernel
theorem dX10_setPatience_49 : decode cX10_setPatience 49 = .ok (.iload_n 2, 1) := by decide +kernel
theorem dX10_setPatience_50 : decode cX10_setPatience 50 = .ok (.ireturn, 1) := by decide +kernel
theorem dX10_format_0 : decode cX10_format 0 = .ok (.iload_n 1, 1) := by decide +kernel
theorem dX10_format_1 : decode cX10_format 1 = .ok (.ifCond .lt 14, 3) := by decide +kernel
theorem dX10_format_4 : decode cX10_format 4 = .ok (.iload_n 1, 1) := by decide +kernel
theorem dX10_format_5 : decode cX10_format 5 = .ok (.aload_n 0, 1) := by decide +kernel
theorem dX10_format_6 : decode cX10_format 6 = .ok (.getfield 12, 3) := by decide +kernel
theorem dX10_format_9 : decode cX10_format 9 = .ok (.getfield 134, 3) := by decide +kernel
theorem dX10_format_12 : decode cX10_format 12 = .ok (.if_icmp .lt 14, 3) := by decide +kernel
theorem dX10_format_15 : decode cX10_format 15 = .ok (.new 164, 3) := by decide +kernel
theorem dX10_format_18 : decode cX10_format 18 = .ok (.dup, 1) := by decide +kernel
theorem dX10_format_19 : decode cX10_format 19 = .ok (.ldc_w 280, 3) := by decide +kernel
theorem dX10_format_22 : decode cX10_format 22 = .ok (.invokespecial 168, 3) := by decide +kernel
theorem dX10_format_25 : decode cX10_format 25 = .ok (.athrow, 1) := by decide +kernel
theorem dX10_format_26 : decode cX10_format 26 = .ok (.aload_n 0, 1) := by decide +kernel
theorem dX10_format_27 : decode cX10_format 27 = .ok (.aload_n 0, 1) := by decide +kernel
theorem dX10_format_28 : decode cX10_format 28 = .ok (.getfield 12, 3) := by decide +kernel
theorem dX10_format_31 : decode cX10_format 31 = .ok (.getfield 131, 3) := by decide +kernel
theorem dX10_format_34 : decode cX10_format 34 = .ok (.aload_n 0, 1) := by decide +kernel
theorem dX10_format_35 : decode cX10_format 35 = .ok (.getfield 80, 3) := by decide +kernel
theorem dX10_format_38 : decode cX10_format 38 = .ok (.arraylength, 1) := by decide +kernel
theorem dX10_format_39 : decode cX10_format 39 = .ok (.invokestatic 282, 3) := by decide +kernel
theorem dX10_format_42 : decode cX10_format 42 = .ok (.putfield 287, 3) := by decide +kernel
theorem dX10_format_45 : decode cX10_format 45 = .ok (.iconst 0, 1) := by decide +kernel
theorem dX10_format_46 : decode cX10_format 46 = .ok (.istore_n 2, 1) := by decide +kernel
theorem dX10_format_47 : decode cX10_format 47 = .ok (.iload_n 2, 1) := by decide +kernel
theorem dX10_format_48 : decode cX10_format 48 = .ok (.aload_n 0, 1) := by decide +kernel
theorem dX10_format_49 : decode cX10_format 49 = .ok (.getfield 287, 3) := by decide +kernel
theorem dX10_format_52 : decode cX10_format 52 = .ok (.if_icmp .ge 21, 3) := by decide +kernel
theorem dX10_format_55 : decode cX10_format 55 = .ok (.aload_n 0, 1) := by decide +kernel
theorem dX10_format_56 : decode cX10_format 56 = .ok (.getfield 80, 3) := by decide +kernel
theorem dX10_format_59 : decode cX10_format 59 = .ok (.iload_n 2, 1) := by decide +kernel
theorem dX10_format_60 : decode cX10_format 60 = .ok (.aload_n 0, 1) := by decide +kernel
theorem dX10_format_61 : decode cX10_format 61 = .ok (.iload_n 2, 1) := by decide +kernel
theorem dX10_format_62 : decode cX10_format 62 = .ok (.iload_n 1, 1) := by decide +kernel
theorem dX10_format_63 : decode cX10_format 63 = .ok (.invokevirtual 290, 3) := by decide +kernel
theorem dX10_format_66 : decode cX10_format 66 = .ok (.iastore, 1) := by decide +kernel
theorem dX10_format_67 : decode cX10_format 67 = .ok (.iinc 2 1, 3) := by decide +kernel
theorem dX10_format_70 : decode cX10_format 70 = .ok (.goto (-23), 3) := by decide +kernel
theorem dX10_format_73 : decode cX10_format 73 = .ok (.aload_n 0, 1) := by decide +kernel
theorem dX10_format_74 : decode cX10_format 74 = .ok (.getfield 287, 3) := by decide +kernel
theorem dX10_format_77 : decode cX10_format 77 = .ok (.ireturn, 1) := by decide +kernel
theorem dX10_signAt_0 : decode cX10_signAt 0 = .ok (.aload_n 0, 1) := by decide +kernel
theorem dX10_signAt_1 : decode cX10_signAt 1 = .ok (.getfield 12, 3) := by decide +kernel
theorem dX10_signAt_4 : decode cX10_signAt 4 = .ok (.iload_n 1, 1) := by decide +kernel
theorem dX10_signAt_5 : decode cX10_signAt 5 = .ok (.iload_n 2, 1) := by decide +kernel
theorem dX10_signAt_6 : decode cX10_signAt 6 = .ok (.invokevirtual 261, 3) := by decide +kernel
theorem dX10_signAt_9 : decode cX10_signAt 9 = .ok (.istore_n 3, 1) := by decide +kernel
theorem dX10_signAt_10 : decode cX10_signAt 10 = .ok (.iload_n 3, 1) := by decide +kernel
theorem dX10_signAt_11 : decode cX10_signAt 11 = .ok (.iconst (-1), 1) := by decide +kernel
theorem dX10_signAt_12 : decode cX10_signAt 12 = .ok (.if_icmp .eq 8, 3) := by decide +kernel
theorem dX10_signAt_15 : decode cX10_signAt 15 = .ok (.bipush 48, 2) := by decide +kernel
theorem dX10_signAt_17 : decode cX10_signAt 17 = .ok (.iload_n 3, 1) := by decide +kernel
theorem dX10_signAt_18 : decode cX10_signAt 18 = .ok (.iadd, 1) := by decide +kernel
theorem dX10_signAt_19 : decode cX10_signAt 19 = .ok (.ireturn, 1) := by decide +kernel
theorem dX10_signAt_20 : decode cX10_signAt 20 = .ok (.aload_n 0, 1) := by decide +kernel
theorem dX10_signAt_21 : decode cX10_signAt 21 = .ok (.getfield 12, 3) := by decide +kernel
theorem dX10_signAt_24 : decode cX10_signAt 24 = .ok (.iload_n 1, 1) := by decide +kernel
theorem dX10_signAt_25 : decode cX10_signAt 25 = .ok (.iload_n 2, 1) := by decide +kernel
theorem dX10_signAt_26 : decode cX10_signAt 26 = .ok (.invokevirtual 264, 3) := by decide +kernel
theorem dX10_signAt_29 : decode cX10_signAt 29 = .ok (.ifCond .eq 6, 3) := by decide +kernel
theorem dX10_signAt_32 : decode cX10_signAt 32 = .ok (.bipush 109, 2) := by decide +kernel
theorem dX10_signAt_34 : decode cX10_signAt 34 = .ok (.ireturn, 1) := by decide +kernel
theorem dX10_signAt_35 : decode cX10_signAt 35 = .ok (.aload_n 0, 1) := by decide +kernel
theorem dX10_signAt_36 : decode cX10_signAt 36 = .ok (.getfield 12, 3) := by decide +kernel
theorem dX10_signAt_39 : decode cX10_signAt 39 = .ok (.iload_n 1, 1) := by decide +kernel
theorem dX10_signAt_40 : decode cX10_signAt 40 = .ok (.iload_n 2, 1) := by decide +kernel
theorem dX10_signAt_41 : decode cX10_signAt 41 = .ok (.invokevirtual 258, 3) := by decide +kernel
theorem dX10_signAt_44 : decode cX10_signAt 44 = .ok (.ifCond .eq 6, 3) := by decide +kernel
theorem dX10_signAt_47 : decode cX10_signAt 47 = .ok (.bipush 104, 2) := by decide +kernel
theorem dX10_signAt_49 : decode cX10_signAt 49 = .ok (.ireturn, 1) := by decide +kernel
theorem dX10_signAt_50 : decode cX10_signAt 50 = .ok (.aload_n 0, 1) := by decide +kernel
theorem dX10_signAt_51 : decode cX10_signAt 51 = .ok (.getfield 12, 3) := by decide +kernel
theorem dX10_signAt_54 : decode cX10_signAt 54 = .ok (.iload_n 1, 1) := by decide +kernel
theorem dX10_signAt_55 : decode cX10_signAt 55 = .ok (.iload_n 2, 1) := by decide +kernel
theorem dX10_signAt_56 : decode cX10_signAt 56 = .ok (.aload_n 0, 1) := by decide +kernel
theorem dX10_signAt_57 : decode cX10_signAt 57 = .ok (.getfield 12, 3) := by decide +kernel
theorem dX10_signAt_60 : decode cX10_signAt 60 = .ok (.getfield 143, 3) := by decide +kernel
theorem dX10_signAt_63 : decode cX10_signAt 63 = .ok (.invokevirtual 204, 3) := by decide +kernel
theorem dX10_signAt_66 : decode cX10_signAt 66 = .ok (.iconst (-1), 1) := by decide +kernel
theorem dX10_signAt_67 : decode cX10_signAt 67 = .ok (.if_icmp .eq 6, 3) := by decide +kernel
theorem dX10_signAt_70 : decode cX10_signAt 70 = .ok (.bipush 33, 2) := by decide +kernel
theorem dX10_signAt_72 : decode cX10_signAt 72 = .ok (.ireturn, 1) := by decide +kernel
theorem dX10_signAt_73 : decode cX10_signAt 73 = .ok (.aload_n 0, 1) := by decide +kernel
theorem dX10_signAt_74 : decode cX10_signAt 74 = .ok (.getfield 12, 3) := by decide +kernel
theorem dX10_signAt_77 : decode cX10_signAt 77 = .ok (.iload_n 1, 1) := by decide +kernel
theorem dX10_signAt_78 : decode cX10_signAt 78 = .ok (.iload_n 2, 1) := by decide +kernel
theorem dX10_signAt_79 : decode cX10_signAt 79 = .ok (.invokevirtual 199, 3) := by decide +kernel
theorem dX10_signAt_82 : decode cX10_signAt 82 = .ok (.ifCond .eq 8, 3) := by decide +kernel
theorem dX10_signAt_85 : decode cX10_signAt 85 = .ok (.bipush 35, 2) := by decide +kernel
theorem dX10_signAt_87 : decode cX10_signAt 87 = .ok (.goto 5, 3) := by decide +kernel
theorem dX10_signAt_90 : decode cX10_signAt 90 = .ok (.bipush 46, 2) := by decide +kernel
theorem dX10_signAt_92 : decode cX10_signAt 92 = .ok (.ireturn, 1) := by decide +kernel
theorem dX10_formattedByte_0 : decode cX10_formattedByte 0 = .ok (.iload_n 1, 1) := by decide +kernel
theorem dX10_formattedByte_1 : decode cX10_formattedByte 1 = .ok (.ifCond .lt 20, 3) := by decide +kernel
theorem dX10_formattedByte_4 : decode cX10_formattedByte 4 = .ok (.iload_n 1, 1) := by decide +kernel
theorem dX10_formattedByte_5 : decode cX10_formattedByte 5 = .ok (.aload_n 0, 1) := by decide +kernel
theorem dX10_formattedByte_6 : decode cX10_formattedByte 6 = .ok (.getfield 287, 3) := by decide +kernel
theorem dX10_formattedByte_9 : decode cX10_formattedByte 9 = .ok (.if_icmp .ge 12, 3) := by decide +kernel
theorem dX10_formattedByte_12 : decode cX10_formattedByte 12 = .ok (.iload_n 1, 1) := by decide +kernel
theorem dX10_formattedByte_13 : decode cX10_formattedByte 13 = .ok (.aload_n 0, 1) := by decide +kernel
theorem dX10_formattedByte_14 : decode cX10_formattedByte 14 = .ok (.getfield 80, 3) := by decide +kernel
theorem dX10_formattedByte_17 : decode cX10_formattedByte 17 = .ok (.arraylength, 1) := by decide +kernel
theorem dX10_formattedByte_18 : decode cX10_formattedByte 18 = .ok (.if_icmp .lt 5, 3) := by decide +kernel
theorem dX10_formattedByte_21 : decode cX10_formattedByte 21 = .ok (.iconst (-1), 1) := by decide +kernel
theorem dX10_formattedByte_22 : decode cX10_formattedByte 22 = .ok (.ireturn, 1) := by decide +kernel
theorem dX10_formattedByte_23 : decode cX10_formattedByte 23 = .ok (.aload_n 0, 1) := by decide +kernel
theorem dX10_formattedByte_24 : decode cX10_formattedByte 24 = .ok (.getfield 80, 3) := by decide +kernel
theorem dX10_formattedByte_27 : decode cX10_formattedByte 27 = .ok (.iload_n 1, 1) := by decide +kernel
theorem dX10_formattedByte_28 : decode cX10_formattedByte 28 = .ok (.iaload, 1) := by decide +kernel
theorem dX10_formattedByte_29 : decode cX10_formattedByte 29 = .ok (.ireturn, 1) := by decide +kernel
theorem dX10_undoCount_0 : decode cX10_undoCount 0 = .ok (.aload_n 0, 1) := by decide +kernel
theorem dX10_undoCount_1 : decode cX10_undoCount 1 = .ok (.getfield 29, 3) := by decide +kernel
theorem dX10_undoCount_4 : decode cX10_undoCount 4 = .ok (.invokevirtual 293, 3) := by decide +kernel
theorem dX10_undoCount_7 : decode cX10_undoCount 7 = .ok (.ireturn, 1) := by decide +kernel
theorem dX10_undo_0 : decode cX10_undo 0 = .ok (.aload_n 0, 1) := by decide +kernel
theorem dX10_undo_1 : decode cX10_undo 1 = .ok (.getfield 29, 3) := by decide +kernel
theorem dX10_undo_4 : decode cX10_undo 4 = .ok (.aload_n 0, 1) := by decide +kernel
theorem dX10_undo_5 : decode cX10_undo 5 = .ok (.getfield 12, 3) := by decide +kernel
theorem dX10_undo_8 : decode cX10_undo 8 = .ok (.invokevirtual 294, 3) := by decide +kernel
theorem dX10_undo_11 : decode cX10_undo 11 = .ok (.ifCond .ne 5, 3) := by decide +kernel
theorem dX10_undo_14 : decode cX10_undo 14 = .ok (.iconst (-1), 1) := by decide +kernel
theorem dX10_undo_15 : decode cX10_undo 15 = .ok (.ireturn, 1) := by decide +kernel
theorem dX10_undo_16 : decode cX10_undo 16 = .ok (.aload_n 0, 1) := by decide +kernel
theorem dX10_undo_17 : decode cX10_undo 17 = .ok (.getfield 38, 3) := by decide +kernel
theorem dX10_undo_20 : decode cX10_undo 20 = .ok (.invokevirtual 112, 3) := by decide +kernel
theorem dX10_undo_23 : decode cX10_undo 23 = .ok (.aload_n 0, 1) := by decide +kernel
theorem dX10_undo_24 : decode cX10_undo 24 = .ok (.getfield 29, 3) := by decide +kernel
theorem dX10_undo_27 : decode cX10_undo 27 = .ok (.invokevirtual 293, 3) := by decide +kernel
theorem dX10_undo_30 : decode cX10_undo 30 = .ok (.ireturn, 1) := by decide +kernel
theorem dX10_saveSnapshot_0 : decode cX10_saveSnapshot 0 = .ok (.aload_n 0, 1) := by decide +kernel
theorem dX10_saveSnapshot_1 : decode cX10_saveSnapshot 1 = .ok (.getfield 298, 3) := by decide +kernel
theorem dX10_saveSnapshot_4 : decode cX10_saveSnapshot 4 = .ok (.ifnonnull 14, 3) := by decide +kernel
theorem dX10_saveSnapshot_7 : decode cX10_saveSnapshot 7 = .ok (.aload_n 0, 1) := by decide +kernel
theorem dX10_saveSnapshot_8 : decode cX10_saveSnapshot 8 = .ok (.new 9, 3) := by decide +kernel
theorem dX10_saveSnapshot_11 : decode cX10_saveSnapshot 11 = .ok (.dup, 1) := by decide +kernel
theorem dX10_saveSnapshot_12 : decode cX10_saveSnapshot 12 = .ok (.invokespecial 11, 3) := by decide +kernel
theorem dX10_saveSnapshot_15 : decode cX10_saveSnapshot 15 = .ok (.putfield 298, 3) := by decide +kernel
theorem dX10_saveSnapshot_18 : decode cX10_saveSnapshot 18 = .ok (.aload_n 0, 1) := by decide +kernel
theorem dX10_saveSnapshot_19 : decode cX10_saveSnapshot 19 = .ok (.getfield 301, 3) := by decide +kernel
theorem dX10_saveSnapshot_22 : decode cX10_saveSnapshot 22 = .ok (.ifnonnull 14, 3) := by decide +kernel
theorem dX10_saveSnapshot_25 : decode cX10_saveSnapshot 25 = .ok (.aload_n 0, 1) := by decide +kernel
theorem dX10_saveSnapshot_26 : decode cX10_saveSnapshot 26 = .ok (.new 19, 3) := by decide +kernel
theorem dX10_saveSnapshot_29 : decode cX10_saveSnapshot 29 = .ok (.dup, 1) := by decide +kernel
theorem dX10_saveSnapshot_30 : decode cX10_saveSnapshot 30 = .ok (.invokespecial 21, 3) := by decide +kernel
theorem dX10_saveSnapshot_33 : decode cX10_saveSnapshot 33 = .ok (.putfield 301, 3) := by decide +kernel
theorem dX10_saveSnapshot_36 : decode cX10_saveSnapshot 36 = .ok (.aload_n 0, 1) := by decide +kernel
theorem dX10_saveSnapshot_37 : decode cX10_saveSnapshot 37 = .ok (.getfield 298, 3) := by decide +kernel
theorem dX10_saveSnapshot_40 : decode cX10_saveSnapshot 40 = .ok (.aload_n 0, 1) := by decide +kernel
theorem dX10_saveSnapshot_41 : decode cX10_saveSnapshot 41 = .ok (.getfield 12, 3) := by decide +kernel
theorem dX10_saveSnapshot_44 : decode cX10_saveSnapshot 44 = .ok (.invokevirtual 109, 3) := by decide +kernel
theorem dX10_saveSnapshot_47 : decode cX10_saveSnapshot 47 = .ok (.aload_n 0, 1) := by decide +kernel
theorem dX10_saveSnapshot_48 : decode cX10_saveSnapshot 48 = .ok (.getfield 301, 3) := by decide +kernel
theorem dX10_saveSnapshot_51 : decode cX10_saveSnapshot 51 = .ok (.aload_n 0, 1) := by decide +kernel
theorem dX10_saveSnapshot_52 : decode cX10_saveSnapshot 52 = .ok (.getfield 22, 3) := by decide +kernel
theorem dX10_saveSnapshot_55 : decode cX10_saveSnapshot 55 = .ok (.invokevirtual 304, 3) := by decide +kernel
theorem dX10_saveSnapshot_58 : decode cX10_saveSnapshot 58 = .ok (.aload_n 0, 1) := by decide +kernel
theorem dX10_saveSnapshot_59 : decode cX10_saveSnapshot 59 = .ok (.iconst 1, 1) := by decide +kernel
theorem dX10_saveSnapshot_60 : decode cX10_saveSnapshot 60 = .ok (.putfield 118, 3) := by decide +kernel
theorem dX10_saveSnapshot_63 : decode cX10_saveSnapshot 63 = .ok (.return_, 1) := by decide +kernel
theorem dX10_restoreSnapshot_0 : decode cX10_restoreSnapshot 0 = .ok (.aload_n 0, 1) := by decide +kernel
theorem dX10_restoreSnapshot_1 : decode cX10_restoreSnapshot 1 = .ok (.getfield 118, 3) := by decide +kernel
theorem dX10_restoreSnapshot_4 : decode cX10_restoreSnapshot 4 = .ok (.ifCond .eq 17, 3) := by decide +kernel
theorem dX10_restoreSnapshot_7 : decode cX10_restoreSnapshot 7 = .ok (.aload_n 0, 1) := by decide +kernel
theorem dX10_restoreSnapshot_8 : decode cX10_restoreSnapshot 8 = .ok (.getfield 298, 3) := by decide +kernel
theorem dX10_restoreSnapshot_11 : decode cX10_restoreSnapshot 11 = .ok (.ifnull 10, 3) := by decide +kernel
theorem dX10_restoreSnapshot_14 : decode cX10_restoreSnapshot 14 = .ok (.aload_n 0, 1) := by decide +kernel
theorem dX10_restoreSnapshot_15 : decode cX10_restoreSnapshot 15 = .ok (.getfield 301, 3) := by decide +kernel
theorem dX10_restoreSnapshot_18 : decode cX10_restoreSnapshot 18 = .ok (.ifnonnull 5, 3) := by decide +kernel
theorem dX10_restoreSnapshot_21 : decode cX10_restoreSnapshot 21 = .ok (.iconst 0, 1) := by decide +kernel
theorem dX10_restoreSnapshot_22 : decode cX10_restoreSnapshot 22 = .ok (.ireturn, 1) := by decide +kernel
theorem dX10_restoreSnapshot_23 : decode cX10_restoreSnapshot 23 = .ok (.aload_n 0, 1) := by decide +kernel
theorem dX10_restoreSnapshot_24 : decode cX10_restoreSnapshot 24 = .ok (.getfield 12, 3) := by decide +kernel
theorem dX10_restoreSnapshot_27 : decode cX10_restoreSnapshot 27 = .ok (.aload_n 0, 1) := by decide +kernel
theorem dX10_restoreSnapshot_28 : decode cX10_restoreSnapshot 28 = .ok (.getfield 298, 3) := by decide +kernel
theorem dX10_restoreSnapshot_31 : decode cX10_restoreSnapshot 31 = .ok (.invokevirtual 109, 3) := by decide +kernel
theorem dX10_restoreSnapshot_34 : decode cX10_restoreSnapshot 34 = .ok (.aload_n 0, 1) := by decide +kernel
theorem dX10_restoreSnapshot_35 : decode cX10_restoreSnapshot 35 = .ok (.getfield 22, 3) := by decide +kernel
theorem dX10_restoreSnapshot_38 : decode cX10_restoreSnapshot 38 = .ok (.aload_n 0, 1) := by decide +kernel
theorem dX10_restoreSnapshot_39 : decode cX10_restoreSnapshot 39 = .ok (.getfield 301, 3) := by decide +kernel
theorem dX10_restoreSnapshot_42 : decode cX10_restoreSnapshot 42 = .ok (.invokevirtual 304, 3) := by decide +kernel
theorem dX10_restoreSnapshot_45 : decode cX10_restoreSnapshot 45 = .ok (.aload_n 0, 1) := by decide +kernel
theorem dX10_restoreSnapshot_46 : decode cX10_restoreSnapshot 46 = .ok (.getfield 38, 3) := by decide +kernel
theorem dX10_restoreSnapshot_49 : decode cX10_restoreSnapshot 49 = .ok (.invokevirtual 112, 3) := by decide +kernel
theorem dX10_restoreSnapshot_52 : decode cX10_restoreSnapshot 52 = .ok (.aload_n 0, 1) := by decide +kernel
theorem dX10_restoreSnapshot_53 : decode cX10_restoreSnapshot 53 = .ok (.getfield 29, 3) := by decide +kernel
theorem dX10_restoreSnapshot_56 : decode cX10_restoreSnapshot 56 = .ok (.invokevirtual 115, 3) := by decide +kernel
theorem dX10_restoreSnapshot_59 : decode cX10_restoreSnapshot 59 = .ok (.iconst 1, 1) := by decide +kernel
theorem dX10_restoreSnapshot_60 : decode cX10_restoreSnapshot 60 = .ok (.ireturn, 1) := by decide +kernel
theorem dX10_query_0 : decode cX10_query 0 = .ok (.iload_n 1, 1) := by decide +kernel
theorem dX10_query_1 : decode cX10_query 1 = .ok (.ifCond .lt 18, 3) := by decide +kernel
theorem dX10_query_4 : decode cX10_query 4 = .ok (.iload_n 1, 1) := by decide +kernel
theorem dX10_query_5 : decode cX10_query 5 = .ok (.sipush 200, 3) := by decide +kernel
theorem dX10_query_8 : decode cX10_query 8 = .ok (.if_icmp .gt 11, 3) := by decide +kernel
theorem dX10_query_11 : decode cX10_query 11 = .ok (.iload_n 1, 1) := by decide +kernel
theorem dX10_query_12 : decode cX10_query 12 = .ok (.aload_n 0, 1) := by decide +kernel
theorem dX10_query_13 : decode cX10_query 13 = .ok (.getfield 87, 3) := by decide +kernel
theorem dX10_query_16 : decode cX10_query 16 = .ok (.if_icmp .le 13, 3) := by decide +kernel
theorem dX10_query_19 : decode cX10_query 19 = .ok (.new 94, 3) := by decide +kernel
theorem dX10_query_22 : decode cX10_query 22 = .ok (.dup, 1) := by decide +kernel
theorem dX10_query_23 : decode cX10_query 23 = .ok (.ldc 96, 2) := by decide +kernel
theorem dX10_query_25 : decode cX10_query 25 = .ok (.invokespecial 98, 3) := by decide +kernel
theorem dX10_query_28 : decode cX10_query 28 = .ok (.athrow, 1) := by decide +kernel
theorem dX10_query_29 : decode cX10_query 29 = .ok (.aload_n 0, 1) := by decide +kernel
theorem dX10_query_30 : decode cX10_query 30 = .ok (.iconst 0, 1) := by decide +kernel
theorem dX10_query_31 : decode cX10_query 31 = .ok (.putfield 87, 3) := by decide +kernel
theorem dX10_query_34 : decode cX10_query 34 = .ok (.aload_n 0, 1) := by decide +kernel
theorem dX10_query_35 : decode cX10_query 35 = .ok (.getfield 76, 3) := by decide +kernel
theorem dX10_query_38 : decode cX10_query 38 = .ok (.iload_n 1, 1) := by decide +kernel
theorem dX10_query_39 : decode cX10_query 39 = .ok (.invokevirtual 307, 3) := by decide +kernel
theorem dX10_query_42 : decode cX10_query 42 = .ok (.istore_n 2, 1) := by decide +kernel
theorem dX10_query_43 : decode cX10_query 43 = .ok (.aload_n 0, 1) := by decide +kernel
theorem dX10_query_44 : decode cX10_query 44 = .ok (.aload_n 0, 1) := by decide +kernel
theorem dX10_query_45 : decode cX10_query 45 = .ok (.getfield 60, 3) := by decide +kernel
theorem dX10_query_48 : decode cX10_query 48 = .ok (.invokevirtual 105, 3) := by decide +kernel
theorem dX10_query_51 : decode cX10_query 51 = .ok (.putfield 83, 3) := by decide +kernel
theorem dX10_query_54 : decode cX10_query 54 = .ok (.iload_n 2, 1) := by decide +kernel
theorem dX10_query_55 : decode cX10_query 55 = .ok (.ireturn, 1) := by decide +kernel
theorem dX10_needRow_0 : decode cX10_needRow 0 = .ok (.iload_n 1, 1) := by decide +kernel
theorem dX10_needRow_1 : decode cX10_needRow 1 = .ok (.ifCond .lt 11, 3) := by decide +kernel
theorem dX10_needRow_4 : decode cX10_needRow 4 = .ok (.iload_n 1, 1) := by decide +kernel
theorem dX10_needRow_5 : decode cX10_needRow 5 = .ok (.aload_n 0, 1) := by decide +kernel
theorem dX10_needRow_6 : decode cX10_needRow 6 = .ok (.invokevirtual 126, 3) := by decide +kernel
theorem dX10_needRow_9 : decode cX10_needRow 9 = .ok (.if_icmp .lt 14, 3) := by decide +kernel
theorem dX10_needRow_12 : decode cX10_needRow 12 = .ok (.new 164, 3) := by decide +kernel
theorem dX10_needRow_15 : decode cX10_needRow 15 = .ok (.dup, 1) := by decide +kernel
theorem dX10_needRow_16 : decode cX10_needRow 16 = .ok (.ldc_w 310, 3) := by decide +kernel
theorem dX10_needRow_19 : decode cX10_needRow 19 = .ok (.invokespecial 168, 3) := by decide +kernel
theorem dX10_needRow_22 : decode cX10_needRow 22 = .ok (.athrow, 1) := by decide +kernel
theorem dX10_needRow_23 : decode cX10_needRow 23 = .ok (.return_, 1) := by decide +kernel
theorem dX10_needColumn_0 : decode cX10_needColumn 0 = .ok (.iload_n 0, 1) := by decide +kernel
theorem dX10_needColumn_1 : decode cX10_needColumn 1 = .ok (.ifCond .lt 8, 3) := by decide +kernel
theorem dX10_needColumn_4 : decode cX10_needColumn 4 = .ok (.iload_n 0, 1) := by decide +kernel
theorem dX10_needColumn_5 : decode cX10_needColumn 5 = .ok (.iload_n 1, 1) := by decide +kernel
theorem dX10_needColumn_6 : decode cX10_needColumn 6 = .ok (.if_icmp .lt 14, 3) := by decide +kernel
theorem dX10_needColumn_9 : decode cX10_needColumn 9 = .ok (.new 164, 3) := by decide +kernel
theorem dX10_needColumn_12 : decode cX10_needColumn 12 = .ok (.dup, 1) := by decide +kernel
theorem dX10_needColumn_13 : decode cX10_needColumn 13 = .ok (.ldc_w 312, 3) := by decide +kernel
theorem dX10_needColumn_16 : decode cX10_needColumn 16 = .ok (.invokespecial 168, 3) := by decide +kernel
theorem dX10_needColumn_19 : decode cX10_needColumn 19 = .ok (.athrow, 1) := by decide +kernel
theorem dX10_needColumn_20 : decode cX10_needColumn 20 = .ok (.return_, 1) := by decide +kernel
theorem dX10_needCell_0 : decode cX10_needCell 0 = .ok (.aload_n 0, 1) := by decide +kernel
theorem dX10_needCell_1 : decode cX10_needCell 1 = .ok (.getfield 12, 3) := by decide +kernel
theorem dX10_needCell_4 : decode cX10_needCell 4 = .ok (.iload_n 1, 1) := by decide +kernel
theorem dX10_needCell_5 : decode cX10_needCell 5 = .ok (.iload_n 2, 1) := by decide +kernel
theorem dX10_needCell_6 : decode cX10_needCell 6 = .ok (.invokevirtual 314, 3) := by decide +kernel
theorem dX10_needCell_9 : decode cX10_needCell 9 = .ok (.ifCond .ne 14, 3) := by decide +kernel
theorem dX10_needCell_12 : decode cX10_needCell 12 = .ok (.new 164, 3) := by decide +kernel
theorem dX10_needCell_15 : decode cX10_needCell 15 = .ok (.dup, 1) := by decide +kernel
theorem dX10_needCell_16 : decode cX10_needCell 16 = .ok (.ldc_w 317, 3) := by decide +kernel
theorem dX10_needCell_19 : decode cX10_needCell 19 = .ok (.invokespecial 168, 3) := by decide +kernel
theorem dX10_needCell_22 : decode cX10_needCell 22 = .ok (.athrow, 1) := by decide +kernel
theorem dX10_needCell_23 : decode cX10_needCell 23 = .ok (.return_, 1) := by decide +kernel
theorem dX10_needGoal_0 : decode cX10_needGoal 0 = .ok (.aload_n 0, 1) := by decide +kernel
theorem dX10_needGoal_1 : decode cX10_needGoal 1 = .ok (.getfield 12, 3) := by decide +kernel
theorem dX10_needGoal_4 : decode cX10_needGoal 4 = .ok (.getfield 122, 3) := by decide +kernel
theorem dX10_needGoal_7 : decode cX10_needGoal 7 = .ok (.iload_n 1, 1) := by decide +kernel
theorem dX10_needGoal_8 : decode cX10_needGoal 8 = .ok (.invokestatic 169, 3) := by decide +kernel
theorem dX10_needGoal_11 : decode cX10_needGoal 11 = .ok (.aload_n 0, 1) := by decide +kernel
theorem dX10_needGoal_12 : decode cX10_needGoal 12 = .ok (.iload_n 2, 1) := by decide +kernel
theorem dX10_needGoal_13 : decode cX10_needGoal 13 = .ok (.iload_n 3, 1) := by decide +kernel
theorem dX10_needGoal_14 : decode cX10_needGoal 14 = .ok (.invokevirtual 196, 3) := by decide +kernel
theorem dX10_needGoal_17 : decode cX10_needGoal 17 = .ok (.aload_n 0, 1) := by decide +kernel
theorem dX10_needGoal_18 : decode cX10_needGoal 18 = .ok (.getfield 12, 3) := by decide +kernel
theorem dX10_needGoal_21 : decode cX10_needGoal 21 = .ok (.iload_n 2, 1) := by decide +kernel
theorem dX10_needGoal_22 : decode cX10_needGoal 22 = .ok (.iload_n 3, 1) := by decide +kernel
theorem dX10_needGoal_23 : decode cX10_needGoal 23 = .ok (.invokevirtual 199, 3) := by decide +kernel
theorem dX10_needGoal_26 : decode cX10_needGoal 26 = .ok (.ifCond .eq 14, 3) := by decide +kernel
theorem dX10_needGoal_29 : decode cX10_needGoal 29 = .ok (.new 94, 3) := by decide +kernel
theorem dX10_needGoal_32 : decode cX10_needGoal 32 = .ok (.dup, 1) := by decide +kernel
theorem dX10_needGoal_33 : decode cX10_needGoal 33 = .ok (.ldc_w 319, 3) := by decide +kernel
theorem dX10_needGoal_36 : decode cX10_needGoal 36 = .ok (.invokespecial 98, 3) := by decide +kernel
theorem dX10_needGoal_39 : decode cX10_needGoal 39 = .ok (.athrow, 1) := by decide +kernel
theorem dX10_needGoal_40 : decode cX10_needGoal 40 = .ok (.return_, 1) := by decide +kernel
theorem dX10_needPastTurn_0 : decode cX10_needPastTurn 0 = .ok (.iload_n 1, 1) := by decide +kernel
theorem dX10_needPastTurn_1 : decode cX10_needPastTurn 1 = .ok (.ifCond .lt 14, 3) := by decide +kernel
theorem dX10_needPastTurn_4 : decode cX10_needPastTurn 4 = .ok (.iload_n 1, 1) := by decide +kernel
theorem dX10_needPastTurn_5 : decode cX10_needPastTurn 5 = .ok (.aload_n 0, 1) := by decide +kernel
theorem dX10_needPastTurn_6 : decode cX10_needPastTurn 6 = .ok (.getfield 12, 3) := by decide +kernel
theorem dX10_needPastTurn_9 : decode cX10_needPastTurn 9 = .ok (.getfield 143, 3) := by decide +kernel
theorem dX10_needPastTurn_12 : decode cX10_needPastTurn 12 = .ok (.if_icmp .le 13, 3) := by decide +kernel
theorem dX10_needPastTurn_15 : decode cX10_needPastTurn 15 = .ok (.new 94, 3) := by decide +kernel
theorem dX10_needPastTurn_18 : decode cX10_needPastTurn 18 = .ok (.dup, 1) := by decide +kernel
theorem dX10_needPastTurn_19 : decode cX10_needPastTurn 19 = .ok (.ldc 202, 2) := by decide +kernel
theorem dX10_needPastTurn_21 : decode cX10_needPastTurn 21 = .ok (.invokespecial 98, 3) := by decide +kernel
theorem dX10_needPastTurn_24 : decode cX10_needPastTurn 24 = .ok (.athrow, 1) := by decide +kernel
theorem dX10_needPastTurn_25 : decode cX10_needPastTurn 25 = .ok (.return_, 1) := by decide +kernel
theorem dX10_needTurns_0 : decode cX10_needTurns 0 = .ok (.iload_n 0, 1) := by decide +kernel
theorem dX10_needTurns_1 : decode cX10_needTurns 1 = .ok (.iload_n 1, 1) := by decide +kernel
theorem dX10_needTurns_2 : decode cX10_needTurns 2 = .ok (.if_icmp .lt 9, 3) := by decide +kernel
theorem dX10_needTurns_5 : decode cX10_needTurns 5 = .ok (.iload_n 0, 1) := by decide +kernel
theorem dX10_needTurns_6 : decode cX10_needTurns 6 = .ok (.bipush 60, 2) := by decide +kernel
theorem dX10_needTurns_8 : decode cX10_needTurns 8 = .ok (.if_icmp .le 14, 3) := by decide +kernel
theorem dX10_needTurns_11 : decode cX10_needTurns 11 = .ok (.new 94, 3) := by decide +kernel
theorem dX10_needTurns_14 : decode cX10_needTurns 14 = .ok (.dup, 1) := by decide +kernel
theorem dX10_needTurns_15 : decode cX10_needTurns 15 = .ok (.ldc_w 321, 3) := by decide +kernel
theorem dX10_needTurns_18 : decode cX10_needTurns 18 = .ok (.invokespecial 98, 3) := by decide +kernel
theorem dX10_needTurns_21 : decode cX10_needTurns 21 = .ok (.athrow, 1) := by decide +kernel
theorem dX10_needTurns_22 : decode cX10_needTurns 22 = .ok (.return_, 1) := by decide +kernel
theorem dX10_cellAt_0 : decode cX10_cellAt 0 = .ok (.bipush 12, 2) := by decide +kernel
theorem dX10_cellAt_2 : decode cX10_cellAt 2 = .ok (.iload_n 1, 1) := by decide +kernel
theorem dX10_cellAt_3 : decode cX10_cellAt 3 = .ok (.imul, 1) := by decide +kernel
theorem dX10_cellAt_4 : decode cX10_cellAt 4 = .ok (.iload_n 0, 1) := by decide +kernel
theorem dX10_cellAt_5 : decode cX10_cellAt 5 = .ok (.iadd, 1) := by decide +kernel
theorem dX10_cellAt_6 : decode cX10_cellAt 6 = .ok (.ireturn, 1) := by decide +kernel
theorem dX10_xOf_0 : decode cX10_xOf 0 = .ok (.iload_n 0, 1) := by decide +kernel
theorem dX10_xOf_1 : decode cX10_xOf 1 = .ok (.bipush 12, 2) := by decide +kernel
theorem dX10_xOf_3 : decode cX10_xOf 3 = .ok (.irem, 1) := by decide +kernel
theorem dX10_xOf_4 : decode cX10_xOf 4 = .ok (.ireturn, 1) := by decide +kernel
theorem dX10_yOf_0 : decode cX10_yOf 0 = .ok (.iload_n 0, 1) := by decide +kernel
theorem dX10_yOf_1 : decode cX10_yOf 1 = .ok (.bipush 12, 2) := by decide +kernel
theorem dX10_yOf_3 : decode cX10_yOf 3 = .ok (.idiv, 1) := by decide +kernel
theorem dX10_yOf_4 : decode cX10_yOf 4 = .ok (.ireturn, 1) := by decide +kernel
theorem dX10_nameOf_0 : decode cX10_nameOf 0 = .ok (.bipush 100, 2) := by decide +kernel
theorem dX10_nameOf_2 : decode cX10_nameOf 2 = .ok (.iload_n 1, 1) := by decide +kernel
theorem dX10_nameOf_3 : decode cX10_nameOf 3 = .ok (.imul, 1) := by decide +kernel
theorem dX10_nameOf_4 : decode cX10_nameOf 4 = .ok (.iload_n 0, 1) := by decide +kernel
theorem dX10_nameOf_5 : decode cX10_nameOf 5 = .ok (.iadd, 1) := by decide +kernel
theorem dX10_nameOf_6 : decode cX10_nameOf 6 = .ok (.ireturn, 1) := by decide +kernel
theorem dJ6_compare_7cf53_0 : decode cJ6_compare_7cf53 0 = .ok (.iload_n 0, 1) := by decide +kernel
theorem dJ6_compare_7cf53_1 : decode cJ6_compare_7cf53 1 = .ok (.iload_n 1, 1) := by decide +kernel
theorem dJ6_compare_7cf53_2 : decode cJ6_compare_7cf53 2 = .ok (.if_icmp .ge 7, 3) := by decide +kernel
theorem dJ6_compare_7cf53_5 : decode cJ6_compare_7cf53 5 = .ok (.iconst (-1), 1) := by decide +kernel
theorem dJ6_compare_7cf53_6 : decode cJ6_compare_7cf53 6 = .ok (.goto 13, 3) := by decide +kernel
theorem dJ6_compare_7cf53_9 : decode cJ6_compare_7cf53 9 = .ok (.iload_n 0, 1) := by decide +kernel
theorem dJ6_compare_7cf53_10 : decode cJ6_compare_7cf53 10 = .ok (.iload_n 1, 1) := by decide +kernel
theorem dJ6_compare_7cf53_11 : decode cJ6_compare_7cf53 11 = .ok (.if_icmp .ne 7, 3) := by decide +kernel
theorem dJ6_compare_7cf53_14 : decode cJ6_compare_7cf53 14 = .ok (.iconst 0, 1) := by decide +kernel
theorem dJ6_compare_7cf53_15 : decode cJ6_compare_7cf53 15 = .ok (.goto 4, 3) := by decide +kernel
theorem dJ6_compare_7cf53_18 : decode cJ6_compare_7cf53 18 = .ok (.iconst 1, 1) := by decide +kernel
theorem dJ6_compare_7cf53_19 : decode cJ6_compare_7cf53 19 = .ok (.ireturn, 1) := by decide +kernel
theorem dJ9_abs_0f7a4_0 : decode cJ9_abs_0f7a4 0 = .ok (.iload_n 0, 1) := by decide +kernel
theorem dJ9_abs_0f7a4_1 : decode cJ9_abs_0f7a4 1 = .ok (.ifCond .ge 8, 3) := by decide +kernel
theorem dJ9_abs_0f7a4_4 : decode cJ9_abs_0f7a4 4 = .ok (.iload_n 0, 1) := by decide +kernel
theorem dJ9_abs_0f7a4_5 : decode cJ9_abs_0f7a4 5 = .ok (.ineg, 1) := by decide +kernel
theorem dJ9_abs_0f7a4_6 : decode cJ9_abs_0f7a4 6 = .ok (.goto 4, 3) := by decide +kernel
theorem dJ9_abs_0f7a4_9 : decode cJ9_abs_0f7a4 9 = .ok (.iload_n 0, 1) := by decide +kernel
theorem dJ9_abs_0f7a4_10 : decode cJ9_abs_0f7a4 10 = .ok (.ireturn, 1) := by decide +kernel
theorem dJ9_min_7cf53_0 : decode cJ9_min_7cf53 0 = .ok (.iload_n 0, 1) := by decide +kernel
theorem dJ9_min_7cf53_1 : decode cJ9_min_7cf53 1 = .ok (.iload_n 1, 1) := by decide +kernel
theorem dJ9_min_7cf53_2 : decode cJ9_min_7cf53 2 = .ok (.if_icmp .gt 7, 3) := by decide +kernel
theorem dJ9_min_7cf53_5 : decode cJ9_min_7cf53 5 = .ok (.iload_n 0, 1) := by decide +kernel
theorem dJ9_min_7cf53_6 : decode cJ9_min_7cf53 6 = .ok (.goto 4, 3) := by decide +kernel
theorem dJ9_min_7cf53_9 : decode cJ9_min_7cf53 9 = .ok (.iload_n 1, 1) := by decide +kernel
theorem dJ9_min_7cf53_10 : decode cJ9_min_7cf53 10 = .ok (.ireturn, 1) := by decide +kernel
theorem dJ9_min_f86c9_0 : decode cJ9_min_f86c9 0 = .ok (.lload_n 0, 1) := by decide +kernel
theorem dJ9_min_f86c9_1 : decode cJ9_min_f86c9 1 = .ok (.lload_n 2, 1) := by decide +kernel
theorem dJ9_min_f86c9_2 : decode cJ9_min_f86c9 2 = .ok (.lcmp, 1) := by decide +kernel
theorem dJ9_min_f86c9_3 : decode cJ9_min_f86c9 3 = .ok (.ifCond .gt 7, 3) := by decide +kernel
theorem dJ9_min_f86c9_6 : decode cJ9_min_f86c9 6 = .ok (.lload_n 0, 1) := by decide +kernel
theorem dJ9_min_f86c9_7 : decode cJ9_min_f86c9 7 = .ok (.goto 4, 3) := by decide +kernel
theorem dJ9_min_f86c9_10 : decode cJ9_min_f86c9 10 = .ok (.lload_n 2, 1) := by decide +kernel
theorem dJ9_min_f86c9_11 : decode cJ9_min_f86c9 11 = .ok (.lreturn, 1) := by decide +kernel
theorem dJ0_length_8abf5_0 : decode cJ0_length_8abf5 0 = .ok (.aload_n 0, 1) := by decide +kernel
theorem dJ0_length_8abf5_1 : decode cJ0_length_8abf5 1 = .ok (.getfield 9, 3) := by decide +kernel
theorem dJ0_length_8abf5_4 : decode cJ0_length_8abf5 4 = .ok (.arraylength, 1) := by decide +kernel
theorem dJ0_length_8abf5_5 : decode cJ0_length_8abf5 5 = .ok (.aload_n 0, 1) := by decide +kernel
theorem dJ0_length_8abf5_6 : decode cJ0_length_8abf5 6 = .ok (.invokevirtual 335, 3) := by decide +kernel
theorem dJ0_length_8abf5_9 : decode cJ0_length_8abf5 9 = .ok (.ishr, 1) := by decide +kernel
theorem dJ0_length_8abf5_10 : decode cJ0_length_8abf5 10 = .ok (.ireturn, 1) := by decide +kernel
theorem dJ0_charAt_5068e_0 : decode cJ0_charAt_5068e 0 = .ok (.aload_n 0, 1) := by decide +kernel
theorem dJ0_charAt_5068e_1 : decode cJ0_charAt_5068e 1 = .ok (.invokevirtual 492, 3) := by decide +kernel
theorem dJ0_charAt_5068e_4 : decode cJ0_charAt_5068e 4 = .ok (.ifCond .eq 12, 3) := by decide +kernel
theorem dJ0_charAt_5068e_7 : decode cJ0_charAt_5068e 7 = .ok (.aload_n 0, 1) := by decide +kernel
theorem dJ0_charAt_5068e_8 : decode cJ0_charAt_5068e 8 = .ok (.getfield 9, 3) := by decide +kernel
theorem dJ0_charAt_5068e_11 : decode cJ0_charAt_5068e 11 = .ok (.iload_n 1, 1) := by decide +kernel
theorem dJ0_charAt_5068e_12 : decode cJ0_charAt_5068e 12 = .ok (.invokestatic 495, 3) := by decide +kernel
theorem dJ0_charAt_5068e_15 : decode cJ0_charAt_5068e 15 = .ok (.ireturn, 1) := by decide +kernel
theorem dJ0_charAt_5068e_16 : decode cJ0_charAt_5068e 16 = .ok (.aload_n 0, 1) := by decide +kernel
theorem dJ0_charAt_5068e_17 : decode cJ0_charAt_5068e 17 = .ok (.getfield 9, 3) := by decide +kernel
theorem dJ0_charAt_5068e_20 : decode cJ0_charAt_5068e 20 = .ok (.iload_n 1, 1) := by decide +kernel
theorem dJ0_charAt_5068e_21 : decode cJ0_charAt_5068e 21 = .ok (.invokestatic 498, 3) := by decide +kernel
theorem dJ0_charAt_5068e_24 : decode cJ0_charAt_5068e 24 = .ok (.ireturn, 1) := by decide +kernel
theorem dJ0_coder_7d493_0 : decode cJ0_coder_7d493 0 = .ok (.getstatic 38, 3) := by decide +kernel
theorem dJ0_coder_7d493_3 : decode cJ0_coder_7d493 3 = .ok (.ifCond .eq 10, 3) := by decide +kernel
theorem dJ0_coder_7d493_6 : decode cJ0_coder_7d493 6 = .ok (.aload_n 0, 1) := by decide +kernel
theorem dJ0_coder_7d493_7 : decode cJ0_coder_7d493 7 = .ok (.getfield 15, 3) := by decide +kernel
theorem dJ0_coder_7d493_10 : decode cJ0_coder_7d493 10 = .ok (.goto 4, 3) := by decide +kernel
theorem dJ0_coder_7d493_13 : decode cJ0_coder_7d493 13 = .ok (.iconst 1, 1) := by decide +kernel
theorem dJ0_coder_7d493_14 : decode cJ0_coder_7d493 14 = .ok (.ireturn, 1) := by decide +kernel
theorem dJ0_isLatin1_aae02_0 : decode cJ0_isLatin1_aae02 0 = .ok (.getstatic 38, 3) := by decide +kernel
theorem dJ0_isLatin1_aae02_3 : decode cJ0_isLatin1_aae02 3 = .ok (.ifCond .eq 14, 3) := by decide +kernel
theorem dJ0_isLatin1_aae02_6 : decode cJ0_isLatin1_aae02 6 = .ok (.aload_n 0, 1) := by decide +kernel
theorem dJ0_isLatin1_aae02_7 : decode cJ0_isLatin1_aae02 7 = .ok (.getfield 15, 3) := by decide +kernel
theorem dJ0_isLatin1_aae02_10 : decode cJ0_isLatin1_aae02 10 = .ok (.ifCond .ne 7, 3) := by decide +kernel
theorem dJ0_isLatin1_aae02_13 : decode cJ0_isLatin1_aae02 13 = .ok (.iconst 1, 1) := by decide +kernel
theorem dJ0_isLatin1_aae02_14 : decode cJ0_isLatin1_aae02 14 = .ok (.goto 4, 3) := by decide +kernel
theorem dJ0_isLatin1_aae02_17 : decode cJ0_isLatin1_aae02 17 = .ok (.iconst 0, 1) := by decide +kernel
theorem dJ0_isLatin1_aae02_18 : decode cJ0_isLatin1_aae02 18 = .ok (.ireturn, 1) := by decide +kernel
theorem dJ0_checkIndex_df160_0 : decode cJ0_checkIndex_df160 0 = .ok (.iload_n 0, 1) := by decide +kernel
theorem dJ0_checkIndex_df160_1 : decode cJ0_checkIndex_df160 1 = .ok (.iload_n 1, 1) := by decide +kernel
theorem dJ0_checkIndex_df160_2 : decode cJ0_checkIndex_df160 2 = .ok (.getstatic 1053, 3) := by decide +kernel
theorem dJ0_checkIndex_df160_5 : decode cJ0_checkIndex_df160 5 = .ok (.invokestatic 1059, 3) := by decide +kernel
theorem dJ0_checkIndex_df160_8 : decode cJ0_checkIndex_df160 8 = .ok (.pop, 1) := by decide +kernel
theorem dJ0_checkIndex_df160_9 : decode cJ0_checkIndex_df160 9 = .ok (.return_, 1) := by decide +kernel
theorem dJ1_charAt_3b067_0 : decode cJ1_charAt_3b067 0 = .ok (.iload_n 1, 1) := by decide +kernel
theorem dJ1_charAt_3b067_1 : decode cJ1_charAt_3b067 1 = .ok (.aload_n 0, 1) := by decide +kernel
theorem dJ1_charAt_3b067_2 : decode cJ1_charAt_3b067 2 = .ok (.arraylength, 1) := by decide +kernel
theorem dJ1_charAt_3b067_3 : decode cJ1_charAt_3b067 3 = .ok (.invokestatic 9, 3) := by decide +kernel
theorem dJ1_charAt_3b067_6 : decode cJ1_charAt_3b067 6 = .ok (.aload_n 0, 1) := by decide +kernel
theorem dJ1_charAt_3b067_7 : decode cJ1_charAt_3b067 7 = .ok (.iload_n 1, 1) := by decide +kernel
theorem dJ1_charAt_3b067_8 : decode cJ1_charAt_3b067 8 = .ok (.baload, 1) := by decide +kernel
theorem dJ1_charAt_3b067_9 : decode cJ1_charAt_3b067 9 = .ok (.sipush 255, 3) := by decide +kernel
theorem dJ1_charAt_3b067_12 : decode cJ1_charAt_3b067 12 = .ok (.iand, 1) := by decide +kernel
theorem dJ1_charAt_3b067_13 : decode cJ1_charAt_3b067 13 = .ok (.i2c, 1) := by decide +kernel
theorem dJ1_charAt_3b067_14 : decode cJ1_charAt_3b067 14 = .ok (.ireturn, 1) := by decide +kernel
theorem dJ2_getChar_3b067_0 : decode cJ2_getChar_3b067 0 = .ok (.getstatic 44, 3) := by decide +kernel
theorem dJ2_getChar_3b067_3 : decode cJ2_getChar_3b067 3 = .ok (.ifCond .ne 25, 3) := by decide +kernel
theorem dJ2_getChar_3b067_6 : decode cJ2_getChar_3b067 6 = .ok (.iload_n 1, 1) := by decide +kernel
theorem dJ2_getChar_3b067_7 : decode cJ2_getChar_3b067 7 = .ok (.ifCond .lt 11, 3) := by decide +kernel
theorem dJ2_getChar_3b067_10 : decode cJ2_getChar_3b067 10 = .ok (.iload_n 1, 1) := by decide +kernel
theorem dJ2_getChar_3b067_11 : decode cJ2_getChar_3b067 11 = .ok (.aload_n 0, 1) := by decide +kernel
theorem dJ2_getChar_3b067_12 : decode cJ2_getChar_3b067 12 = .ok (.invokestatic 48, 3) := by decide +kernel
theorem dJ2_getChar_3b067_15 : decode cJ2_getChar_3b067 15 = .ok (.if_icmp .lt 13, 3) := by decide +kernel
theorem dJ2_getChar_3b067_18 : decode cJ2_getChar_3b067 18 = .ok (.new 52, 3) := by decide +kernel
theorem dJ2_getChar_3b067_21 : decode cJ2_getChar_3b067 21 = .ok (.dup, 1) := by decide +kernel
theorem dJ2_getChar_3b067_22 : decode cJ2_getChar_3b067 22 = .ok (.ldc 54, 2) := by decide +kernel
theorem dJ2_getChar_3b067_24 : decode cJ2_getChar_3b067 24 = .ok (.invokespecial 56, 3) := by decide +kernel
theorem dJ2_getChar_3b067_27 : decode cJ2_getChar_3b067 27 = .ok (.athrow, 1) := by decide +kernel
theorem dJ2_getChar_3b067_28 : decode cJ2_getChar_3b067 28 = .ok (.iload_n 1, 1) := by decide +kernel
theorem dJ2_getChar_3b067_29 : decode cJ2_getChar_3b067 29 = .ok (.iconst 1, 1) := by decide +kernel
theorem dJ2_getChar_3b067_30 : decode cJ2_getChar_3b067 30 = .ok (.ishl, 1) := by decide +kernel
theorem dJ2_getChar_3b067_31 : decode cJ2_getChar_3b067 31 = .ok (.istore_n 1, 1) := by decide +kernel
theorem dJ2_getChar_3b067_32 : decode cJ2_getChar_3b067 32 = .ok (.aload_n 0, 1) := by decide +kernel
theorem dJ2_getChar_3b067_33 : decode cJ2_getChar_3b067 33 = .ok (.iload_n 1, 1) := by decide +kernel
theorem dJ2_getChar_3b067_34 : decode cJ2_getChar_3b067 34 = .ok (.iinc 1 1, 3) := by decide +kernel
theorem dJ2_getChar_3b067_37 : decode cJ2_getChar_3b067 37 = .ok (.baload, 1) := by decide +kernel
theorem dJ2_getChar_3b067_38 : decode cJ2_getChar_3b067 38 = .ok (.sipush 255, 3) := by decide +kernel
theorem dJ2_getChar_3b067_41 : decode cJ2_getChar_3b067 41 = .ok (.iand, 1) := by decide +kernel
theorem dJ2_getChar_3b067_42 : decode cJ2_getChar_3b067 42 = .ok (.getstatic 59, 3) := by decide +kernel
theorem dJ2_getChar_3b067_45 : decode cJ2_getChar_3b067 45 = .ok (.ishl, 1) := by decide +kernel
theorem dJ2_getChar_3b067_46 : decode cJ2_getChar_3b067 46 = .ok (.aload_n 0, 1) := by decide +kernel
theorem dJ2_getChar_3b067_47 : decode cJ2_getChar_3b067 47 = .ok (.iload_n 1, 1) := by decide +kernel
theorem dJ2_getChar_3b067_48 : decode cJ2_getChar_3b067 48 = .ok (.baload, 1) := by decide +kernel
theorem dJ2_getChar_3b067_49 : decode cJ2_getChar_3b067 49 = .ok (.sipush 255, 3) := by decide +kernel
theorem dJ2_getChar_3b067_52 : decode cJ2_getChar_3b067 52 = .ok (.iand, 1) := by decide +kernel
theorem dJ2_getChar_3b067_53 : decode cJ2_getChar_3b067 53 = .ok (.getstatic 63, 3) := by decide +kernel
theorem dJ2_getChar_3b067_56 : decode cJ2_getChar_3b067 56 = .ok (.ishl, 1) := by decide +kernel
theorem dJ2_getChar_3b067_57 : decode cJ2_getChar_3b067 57 = .ok (.ior, 1) := by decide +kernel
theorem dJ2_getChar_3b067_58 : decode cJ2_getChar_3b067 58 = .ok (.i2c, 1) := by decide +kernel
theorem dJ2_getChar_3b067_59 : decode cJ2_getChar_3b067 59 = .ok (.ireturn, 1) := by decide +kernel
theorem dJ2_length_9d52b_0 : decode cJ2_length_9d52b 0 = .ok (.aload_n 0, 1) := by decide +kernel
theorem dJ2_length_9d52b_1 : decode cJ2_length_9d52b 1 = .ok (.arraylength, 1) := by decide +kernel
theorem dJ2_length_9d52b_2 : decode cJ2_length_9d52b 2 = .ok (.iconst 1, 1) := by decide +kernel
theorem dJ2_length_9d52b_3 : decode cJ2_length_9d52b 3 = .ok (.ishr, 1) := by decide +kernel
theorem dJ2_length_9d52b_4 : decode cJ2_length_9d52b 4 = .ok (.ireturn, 1) := by decide +kernel
theorem dJ2_charAt_3b067_0 : decode cJ2_charAt_3b067 0 = .ok (.iload_n 1, 1) := by decide +kernel
theorem dJ2_charAt_3b067_1 : decode cJ2_charAt_3b067 1 = .ok (.aload_n 0, 1) := by decide +kernel
theorem dJ2_charAt_3b067_2 : decode cJ2_charAt_3b067 2 = .ok (.invokestatic 67, 3) := by decide +kernel
theorem dJ2_charAt_3b067_5 : decode cJ2_charAt_3b067 5 = .ok (.aload_n 0, 1) := by decide +kernel
theorem dJ2_charAt_3b067_6 : decode cJ2_charAt_3b067 6 = .ok (.iload_n 1, 1) := by decide +kernel
theorem dJ2_charAt_3b067_7 : decode cJ2_charAt_3b067 7 = .ok (.invokestatic 71, 3) := by decide +kernel
theorem dJ2_charAt_3b067_10 : decode cJ2_charAt_3b067 10 = .ok (.ireturn, 1) := by decide +kernel
theorem dJ2_checkIndex_2214a_0 : decode cJ2_checkIndex_2214a 0 = .ok (.iload_n 0, 1) := by decide +kernel
theorem dJ2_checkIndex_2214a_1 : decode cJ2_checkIndex_2214a 1 = .ok (.aload_n 1, 1) := by decide +kernel
theorem dJ2_checkIndex_2214a_2 : decode cJ2_checkIndex_2214a 2 = .ok (.invokestatic 48, 3) := by decide +kernel
theorem dJ2_checkIndex_2214a_5 : decode cJ2_checkIndex_2214a 5 = .ok (.invokestatic 414, 3) := by decide +kernel
theorem dJ2_checkIndex_2214a_8 : decode cJ2_checkIndex_2214a 8 = .ok (.return_, 1) := by decide +kernel
theorem dJ7_fill_53178_0 : decode cJ7_fill_53178 0 = .ok (.iconst 0, 1) := by decide +kernel
theorem dJ7_fill_53178_1 : decode cJ7_fill_53178 1 = .ok (.istore_n 2, 1) := by decide +kernel
theorem dJ7_fill_53178_2 : decode cJ7_fill_53178 2 = .ok (.aload_n 0, 1) := by decide +kernel
theorem dJ7_fill_53178_3 : decode cJ7_fill_53178 3 = .ok (.arraylength, 1) := by decide +kernel
theorem dJ7_fill_53178_4 : decode cJ7_fill_53178 4 = .ok (.istore_n 3, 1) := by decide +kernel
theorem dJ7_fill_53178_5 : decode cJ7_fill_53178 5 = .ok (.iload_n 2, 1) := by decide +kernel
theorem dJ7_fill_53178_6 : decode cJ7_fill_53178 6 = .ok (.iload_n 3, 1) := by decide +kernel
theorem dJ7_fill_53178_7 : decode cJ7_fill_53178 7 = .ok (.if_icmp .ge 13, 3) := by decide +kernel
theorem dJ7_fill_53178_10 : decode cJ7_fill_53178 10 = .ok (.aload_n 0, 1) := by decide +kernel
theorem dJ7_fill_53178_11 : decode cJ7_fill_53178 11 = .ok (.iload_n 2, 1) := by decide +kernel
theorem dJ7_fill_53178_12 : decode cJ7_fill_53178 12 = .ok (.iload_n 1, 1) := by decide +kernel
theorem dJ7_fill_53178_13 : decode cJ7_fill_53178 13 = .ok (.iastore, 1) := by decide +kernel
theorem dJ7_fill_53178_14 : decode cJ7_fill_53178 14 = .ok (.iinc 2 1, 3) := by decide +kernel
theorem dJ7_fill_53178_17 : decode cJ7_fill_53178 17 = .ok (.goto (-12), 3) := by decide +kernel
theorem dJ7_fill_53178_20 : decode cJ7_fill_53178 20 = .ok (.return_, 1) := by decide +kernel
theorem dJ3_checkIndex_8e157_0 : decode cJ3_checkIndex_8e157 0 = .ok (.iload_n 0, 1) := by decide +kernel
theorem dJ3_checkIndex_8e157_1 : decode cJ3_checkIndex_8e157 1 = .ok (.ifCond .lt 8, 3) := by decide +kernel
theorem dJ3_checkIndex_8e157_4 : decode cJ3_checkIndex_8e157 4 = .ok (.iload_n 0, 1) := by decide +kernel
theorem dJ3_checkIndex_8e157_5 : decode cJ3_checkIndex_8e157 5 = .ok (.iload_n 1, 1) := by decide +kernel
theorem dJ3_checkIndex_8e157_6 : decode cJ3_checkIndex_8e157 6 = .ok (.if_icmp .lt 10, 3) := by decide +kernel
theorem dJ3_checkIndex_8e157_9 : decode cJ3_checkIndex_8e157 9 = .ok (.aload_n 2, 1) := by decide +kernel
theorem dJ3_checkIndex_8e157_10 : decode cJ3_checkIndex_8e157 10 = .ok (.iload_n 0, 1) := by decide +kernel
theorem dJ3_checkIndex_8e157_11 : decode cJ3_checkIndex_8e157 11 = .ok (.iload_n 1, 1) := by decide +kernel
theorem dJ3_checkIndex_8e157_12 : decode cJ3_checkIndex_8e157 12 = .ok (.invokestatic 95, 3) := by decide +kernel
theorem dJ3_checkIndex_8e157_15 : decode cJ3_checkIndex_8e157 15 = .ok (.athrow, 1) := by decide +kernel
theorem dJ3_checkIndex_8e157_16 : decode cJ3_checkIndex_8e157 16 = .ok (.iload_n 0, 1) := by decide +kernel
theorem dJ3_checkIndex_8e157_17 : decode cJ3_checkIndex_8e157 17 = .ok (.ireturn, 1) := by decide +kernel
