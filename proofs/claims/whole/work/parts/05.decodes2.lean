theorem dX11_init_0 : decode cX11_init 0 = .ok (.aload_n 0, 1) := by decide +kernel
theorem dX11_init_1 : decode cX11_init 1 = .ok (.invokespecial 1, 3) := by decide +kernel
theorem dX11_init_4 : decode cX11_init 4 = .ok (.aload_n 0, 1) := by decide +kernel
theorem dX11_init_5 : decode cX11_init 5 = .ok (.sipush 3934, 3) := by decide +kernel
theorem dX11_init_8 : decode cX11_init 8 = .ok (.newarray .int, 2) := by decide +kernel
theorem dX11_init_10 : decode cX11_init 10 = .ok (.putfield 9, 3) := by decide +kernel
theorem dX11_init_13 : decode cX11_init 13 = .ok (.aload_n 0, 1) := by decide +kernel
theorem dX11_init_14 : decode cX11_init 14 = .ok (.sipush 3934, 3) := by decide +kernel
theorem dX11_init_17 : decode cX11_init 17 = .ok (.newarray .int, 2) := by decide +kernel
theorem dX11_init_19 : decode cX11_init 19 = .ok (.putfield 13, 3) := by decide +kernel
theorem dX11_init_22 : decode cX11_init 22 = .ok (.aload_n 0, 1) := by decide +kernel
theorem dX11_init_23 : decode cX11_init 23 = .ok (.sipush 3934, 3) := by decide +kernel
theorem dX11_init_26 : decode cX11_init 26 = .ok (.newarray .int, 2) := by decide +kernel
theorem dX11_init_28 : decode cX11_init 28 = .ok (.putfield 16, 3) := by decide +kernel
theorem dX11_init_31 : decode cX11_init 31 = .ok (.aload_n 0, 1) := by decide +kernel
theorem dX11_init_32 : decode cX11_init 32 = .ok (.sipush 3934, 3) := by decide +kernel
theorem dX11_init_35 : decode cX11_init 35 = .ok (.newarray .int, 2) := by decide +kernel
theorem dX11_init_37 : decode cX11_init 37 = .ok (.putfield 19, 3) := by decide +kernel
theorem dX11_init_40 : decode cX11_init 40 = .ok (.aload_n 0, 1) := by decide +kernel
theorem dX11_init_41 : decode cX11_init 41 = .ok (.ldc 22, 2) := by decide +kernel
theorem dX11_init_43 : decode cX11_init 43 = .ok (.newarray .int, 2) := by decide +kernel
theorem dX11_init_45 : decode cX11_init 45 = .ok (.putfield 23, 3) := by decide +kernel
theorem dX11_init_48 : decode cX11_init 48 = .ok (.aload_n 0, 1) := by decide +kernel
theorem dX11_init_49 : decode cX11_init 49 = .ok (.sipush 144, 3) := by decide +kernel
theorem dX11_init_52 : decode cX11_init 52 = .ok (.newarray .int, 2) := by decide +kernel
theorem dX11_init_54 : decode cX11_init 54 = .ok (.putfield 26, 3) := by decide +kernel
theorem dX11_init_57 : decode cX11_init 57 = .ok (.aload_n 0, 1) := by decide +kernel
theorem dX11_init_58 : decode cX11_init 58 = .ok (.sipush 144, 3) := by decide +kernel
theorem dX11_init_61 : decode cX11_init 61 = .ok (.newarray .int, 2) := by decide +kernel
theorem dX11_init_63 : decode cX11_init 63 = .ok (.putfield 29, 3) := by decide +kernel
theorem dX11_init_66 : decode cX11_init 66 = .ok (.aload_n 0, 1) := by decide +kernel
theorem dX11_init_67 : decode cX11_init 67 = .ok (.bipush 12, 2) := by decide +kernel
theorem dX11_init_69 : decode cX11_init 69 = .ok (.newarray .int, 2) := by decide +kernel
theorem dX11_init_71 : decode cX11_init 71 = .ok (.putfield 32, 3) := by decide +kernel
theorem dX11_init_74 : decode cX11_init 74 = .ok (.aload_n 0, 1) := by decide +kernel
theorem dX11_init_75 : decode cX11_init 75 = .ok (.sipush 600, 3) := by decide +kernel
theorem dX11_init_78 : decode cX11_init 78 = .ok (.newarray .int, 2) := by decide +kernel
theorem dX11_init_80 : decode cX11_init 80 = .ok (.putfield 35, 3) := by decide +kernel
theorem dX11_init_83 : decode cX11_init 83 = .ok (.aload_n 0, 1) := by decide +kernel
theorem dX11_init_84 : decode cX11_init 84 = .ok (.iconst (-1), 1) := by decide +kernel
theorem dX11_init_85 : decode cX11_init 85 = .ok (.putfield 38, 3) := by decide +kernel
theorem dX11_init_88 : decode cX11_init 88 = .ok (.aload_n 0, 1) := by decide +kernel
theorem dX11_init_89 : decode cX11_init 89 = .ok (.bipush 9, 2) := by decide +kernel
theorem dX11_init_91 : decode cX11_init 91 = .ok (.anewarray 42, 3) := by decide +kernel
theorem dX11_init_94 : decode cX11_init 94 = .ok (.dup, 1) := by decide +kernel
theorem dX11_init_95 : decode cX11_init 95 = .ok (.iconst 0, 1) := by decide +kernel
theorem dX11_init_96 : decode cX11_init 96 = .ok (.ldc 44, 2) := by decide +kernel
theorem dX11_init_98 : decode cX11_init 98 = .ok (.aastore, 1) := by decide +kernel
theorem dX11_init_99 : decode cX11_init 99 = .ok (.dup, 1) := by decide +kernel
theorem dX11_init_100 : decode cX11_init 100 = .ok (.iconst 1, 1) := by decide +kernel
theorem dX11_init_101 : decode cX11_init 101 = .ok (.ldc 46, 2) := by decide +kernel
theorem dX11_init_103 : decode cX11_init 103 = .ok (.aastore, 1) := by decide +kernel
theorem dX11_init_104 : decode cX11_init 104 = .ok (.dup, 1) := by decide +kernel
theorem dX11_init_105 : decode cX11_init 105 = .ok (.iconst 2, 1) := by decide +kernel
theorem dX11_init_106 : decode cX11_init 106 = .ok (.ldc 48, 2) := by decide +kernel
theorem dX11_init_108 : decode cX11_init 108 = .ok (.aastore, 1) := by decide +kernel
theorem dX11_init_109 : decode cX11_init 109 = .ok (.dup, 1) := by decide +kernel
theorem dX11_init_110 : decode cX11_init 110 = .ok (.iconst 3, 1) := by decide +kernel
theorem dX11_init_111 : decode cX11_init 111 = .ok (.ldc 50, 2) := by decide +kernel
theorem dX11_init_113 : decode cX11_init 113 = .ok (.aastore, 1) := by decide +kernel
theorem dX11_init_114 : decode cX11_init 114 = .ok (.dup, 1) := by decide +kernel
theorem dX11_init_115 : decode cX11_init 115 = .ok (.iconst 4, 1) := by decide +kernel
theorem dX11_init_116 : decode cX11_init 116 = .ok (.ldc 52, 2) := by decide +kernel
theorem dX11_init_118 : decode cX11_init 118 = .ok (.aastore, 1) := by decide +kernel
theorem dX11_init_119 : decode cX11_init 119 = .ok (.dup, 1) := by decide +kernel
theorem dX11_init_120 : decode cX11_init 120 = .ok (.iconst 5, 1) := by decide +kernel
theorem dX11_init_121 : decode cX11_init 121 = .ok (.ldc 54, 2) := by decide +kernel
theorem dX11_init_123 : decode cX11_init 123 = .ok (.aastore, 1) := by decide +kernel
theorem dX11_init_124 : decode cX11_init 124 = .ok (.dup, 1) := by decide +kernel
theorem dX11_init_125 : decode cX11_init 125 = .ok (.bipush 6, 2) := by decide +kernel
theorem dX11_init_127 : decode cX11_init 127 = .ok (.ldc 56, 2) := by decide +kernel
theorem dX11_init_129 : decode cX11_init 129 = .ok (.aastore, 1) := by decide +kernel
theorem dX11_init_130 : decode cX11_init 130 = .ok (.dup, 1) := by decide +kernel
theorem dX11_init_131 : decode cX11_init 131 = .ok (.bipush 7, 2) := by decide +kernel
theorem dX11_init_133 : decode cX11_init 133 = .ok (.ldc 58, 2) := by decide +kernel
theorem dX11_init_135 : decode cX11_init 135 = .ok (.aastore, 1) := by decide +kernel
theorem dX11_init_136 : decode cX11_init 136 = .ok (.dup, 1) := by decide +kernel
theorem dX11_init_137 : decode cX11_init 137 = .ok (.bipush 8, 2) := by decide +kernel
theorem dX11_init_139 : decode cX11_init 139 = .ok (.ldc 60, 2) := by decide +kernel
theorem dX11_init_141 : decode cX11_init 141 = .ok (.aastore, 1) := by decide +kernel
theorem dX11_init_142 : decode cX11_init 142 = .ok (.putfield 62, 3) := by decide +kernel
theorem dX11_init_145 : decode cX11_init 145 = .ok (.aload_n 0, 1) := by decide +kernel
theorem dX11_init_146 : decode cX11_init 146 = .ok (.sipush 200, 3) := by decide +kernel
theorem dX11_init_149 : decode cX11_init 149 = .ok (.newarray .int, 2) := by decide +kernel
theorem dX11_init_151 : decode cX11_init 151 = .ok (.putfield 66, 3) := by decide +kernel
theorem dX11_init_154 : decode cX11_init 154 = .ok (.aload_n 0, 1) := by decide +kernel
theorem dX11_init_155 : decode cX11_init 155 = .ok (.sipush 200, 3) := by decide +kernel
theorem dX11_init_158 : decode cX11_init 158 = .ok (.newarray .long, 2) := by decide +kernel
theorem dX11_init_160 : decode cX11_init 160 = .ok (.putfield 69, 3) := by decide +kernel
theorem dX11_init_163 : decode cX11_init 163 = .ok (.aload_n 0, 1) := by decide +kernel
theorem dX11_init_164 : decode cX11_init 164 = .ok (.getfield 9, 3) := by decide +kernel
theorem dX11_init_167 : decode cX11_init 167 = .ok (.invokestatic 73, 3) := by decide +kernel
theorem dX11_init_170 : decode cX11_init 170 = .ok (.return_, 1) := by decide +kernel
theorem dX11_thrown_0 : decode cX11_thrown 0 = .ok (.aload_n 0, 1) := by decide +kernel
theorem dX11_thrown_1 : decode cX11_thrown 1 = .ok (.getfield 77, 3) := by decide +kernel
theorem dX11_thrown_4 : decode cX11_thrown 4 = .ok (.ireturn, 1) := by decide +kernel
theorem dX11_raise_0 : decode cX11_raise 0 = .ok (.aload_n 0, 1) := by decide +kernel
theorem dX11_raise_1 : decode cX11_raise 1 = .ok (.iload_n 1, 1) := by decide +kernel
theorem dX11_raise_2 : decode cX11_raise 2 = .ok (.putfield 77, 3) := by decide +kernel
theorem dX11_raise_5 : decode cX11_raise 5 = .ok (.iconst 0, 1) := by decide +kernel
theorem dX11_raise_6 : decode cX11_raise 6 = .ok (.ireturn, 1) := by decide +kernel
theorem dX11_inRange_0 : decode cX11_inRange 0 = .ok (.iload_n 0, 1) := by decide +kernel
theorem dX11_inRange_1 : decode cX11_inRange 1 = .ok (.iload_n 1, 1) := by decide +kernel
theorem dX11_inRange_2 : decode cX11_inRange 2 = .ok (.if_icmp .lt 12, 3) := by decide +kernel
theorem dX11_inRange_5 : decode cX11_inRange 5 = .ok (.iload_n 0, 1) := by decide +kernel
theorem dX11_inRange_6 : decode cX11_inRange 6 = .ok (.iload_n 2, 1) := by decide +kernel
theorem dX11_inRange_7 : decode cX11_inRange 7 = .ok (.if_icmp .gt 7, 3) := by decide +kernel
theorem dX11_inRange_10 : decode cX11_inRange 10 = .ok (.iconst 1, 1) := by decide +kernel
theorem dX11_inRange_11 : decode cX11_inRange 11 = .ok (.goto 4, 3) := by decide +kernel
theorem dX11_inRange_14 : decode cX11_inRange 14 = .ok (.iconst 0, 1) := by decide +kernel
theorem dX11_inRange_15 : decode cX11_inRange 15 = .ok (.ireturn, 1) := by decide +kernel
theorem dX11_clear_0 : decode cX11_clear 0 = .ok (.iconst 0, 1) := by decide +kernel
theorem dX11_clear_1 : decode cX11_clear 1 = .ok (.istore_n 1, 1) := by decide +kernel
theorem dX11_clear_2 : decode cX11_clear 2 = .ok (.iload_n 1, 1) := by decide +kernel
theorem dX11_clear_3 : decode cX11_clear 3 = .ok (.sipush 3934, 3) := by decide +kernel
theorem dX11_clear_6 : decode cX11_clear 6 = .ok (.if_icmp .ge 13, 3) := by decide +kernel
theorem dX11_clear_9 : decode cX11_clear 9 = .ok (.aload_n 0, 1) := by decide +kernel
theorem dX11_clear_10 : decode cX11_clear 10 = .ok (.iload_n 1, 1) := by decide +kernel
theorem dX11_clear_11 : decode cX11_clear 11 = .ok (.iconst 0, 1) := by decide +kernel
theorem dX11_clear_12 : decode cX11_clear 12 = .ok (.iastore, 1) := by decide +kernel
theorem dX11_clear_13 : decode cX11_clear 13 = .ok (.iinc 1 1, 3) := by decide +kernel
theorem dX11_clear_16 : decode cX11_clear 16 = .ok (.goto (-14), 3) := by decide +kernel
theorem dX11_clear_19 : decode cX11_clear 19 = .ok (.aload_n 0, 1) := by decide +kernel
theorem dX11_clear_20 : decode cX11_clear 20 = .ok (.iconst 0, 1) := by decide +kernel
theorem dX11_clear_21 : decode cX11_clear 21 = .ok (.iconst 3, 1) := by decide +kernel
theorem dX11_clear_22 : decode cX11_clear 22 = .ok (.iastore, 1) := by decide +kernel
theorem dX11_clear_23 : decode cX11_clear 23 = .ok (.aload_n 0, 1) := by decide +kernel
theorem dX11_clear_24 : decode cX11_clear 24 = .ok (.iconst 1, 1) := by decide +kernel
theorem dX11_clear_25 : decode cX11_clear 25 = .ok (.iconst 3, 1) := by decide +kernel
theorem dX11_clear_26 : decode cX11_clear 26 = .ok (.iastore, 1) := by decide +kernel
theorem dX11_clear_27 : decode cX11_clear 27 = .ok (.aload_n 0, 1) := by decide +kernel
theorem dX11_clear_28 : decode cX11_clear 28 = .ok (.bipush 9, 2) := by decide +kernel
theorem dX11_clear_30 : decode cX11_clear 30 = .ok (.bipush 30, 2) := by decide +kernel
theorem dX11_clear_32 : decode cX11_clear 32 = .ok (.iastore, 1) := by decide +kernel
theorem dX11_clear_33 : decode cX11_clear 33 = .ok (.return_, 1) := by decide +kernel
theorem dX11_unitAt_0 : decode cX11_unitAt 0 = .ok (.bipush 12, 2) := by decide +kernel
theorem dX11_unitAt_2 : decode cX11_unitAt 2 = .ok (.iconst 4, 1) := by decide +kernel
theorem dX11_unitAt_3 : decode cX11_unitAt 3 = .ok (.iload_n 0, 1) := by decide +kernel
theorem dX11_unitAt_4 : decode cX11_unitAt 4 = .ok (.imul, 1) := by decide +kernel
theorem dX11_unitAt_5 : decode cX11_unitAt 5 = .ok (.iadd, 1) := by decide +kernel
theorem dX11_unitAt_6 : decode cX11_unitAt 6 = .ok (.iload_n 1, 1) := by decide +kernel
theorem dX11_unitAt_7 : decode cX11_unitAt 7 = .ok (.iadd, 1) := by decide +kernel
theorem dX11_unitAt_8 : decode cX11_unitAt 8 = .ok (.ireturn, 1) := by decide +kernel
theorem dX11_picketAt_0 : decode cX11_picketAt 0 = .ok (.bipush 36, 2) := by decide +kernel
theorem dX11_picketAt_2 : decode cX11_picketAt 2 = .ok (.bipush 7, 2) := by decide +kernel
theorem dX11_picketAt_4 : decode cX11_picketAt 4 = .ok (.iload_n 0, 1) := by decide +kernel
theorem dX11_picketAt_5 : decode cX11_picketAt 5 = .ok (.imul, 1) := by decide +kernel
theorem dX11_picketAt_6 : decode cX11_picketAt 6 = .ok (.iadd, 1) := by decide +kernel
theorem dX11_picketAt_7 : decode cX11_picketAt 7 = .ok (.iload_n 1, 1) := by decide +kernel
theorem dX11_picketAt_8 : decode cX11_picketAt 8 = .ok (.iadd, 1) := by decide +kernel
theorem dX11_picketAt_9 : decode cX11_picketAt 9 = .ok (.ireturn, 1) := by decide +kernel
theorem dX11_orderAt_0 : decode cX11_orderAt 0 = .ok (.bipush 64, 2) := by decide +kernel
theorem dX11_orderAt_2 : decode cX11_orderAt 2 = .ok (.bipush 10, 2) := by decide +kernel
theorem dX11_orderAt_4 : decode cX11_orderAt 4 = .ok (.iload_n 0, 1) := by decide +kernel
theorem dX11_orderAt_5 : decode cX11_orderAt 5 = .ok (.imul, 1) := by decide +kernel
theorem dX11_orderAt_6 : decode cX11_orderAt 6 = .ok (.iadd, 1) := by decide +kernel
theorem dX11_orderAt_7 : decode cX11_orderAt 7 = .ok (.iload_n 1, 1) := by decide +kernel
theorem dX11_orderAt_8 : decode cX11_orderAt 8 = .ok (.iadd, 1) := by decide +kernel
theorem dX11_orderAt_9 : decode cX11_orderAt 9 = .ok (.ireturn, 1) := by decide +kernel
theorem dX11_planAt_0 : decode cX11_planAt 0 = .ok (.sipush 464, 3) := by decide +kernel
theorem dX11_planAt_3 : decode cX11_planAt 3 = .ok (.iconst 4, 1) := by decide +kernel
theorem dX11_planAt_4 : decode cX11_planAt 4 = .ok (.iload_n 0, 1) := by decide +kernel
theorem dX11_planAt_5 : decode cX11_planAt 5 = .ok (.imul, 1) := by decide +kernel
theorem dX11_planAt_6 : decode cX11_planAt 6 = .ok (.iadd, 1) := by decide +kernel
theorem dX11_planAt_7 : decode cX11_planAt 7 = .ok (.iload_n 1, 1) := by decide +kernel
theorem dX11_planAt_8 : decode cX11_planAt 8 = .ok (.iadd, 1) := by decide +kernel
theorem dX11_planAt_9 : decode cX11_planAt 9 = .ok (.ireturn, 1) := by decide +kernel
theorem dX11_wasSlot_0 : decode cX11_wasSlot 0 = .ok (.sipush 928, 3) := by decide +kernel
theorem dX11_wasSlot_3 : decode cX11_wasSlot 3 = .ok (.sipush 501, 3) := by decide +kernel
theorem dX11_wasSlot_6 : decode cX11_wasSlot 6 = .ok (.iload_n 0, 1) := by decide +kernel
theorem dX11_wasSlot_7 : decode cX11_wasSlot 7 = .ok (.imul, 1) := by decide +kernel
theorem dX11_wasSlot_8 : decode cX11_wasSlot 8 = .ok (.iadd, 1) := by decide +kernel
theorem dX11_wasSlot_9 : decode cX11_wasSlot 9 = .ok (.iload_n 1, 1) := by decide +kernel
theorem dX11_wasSlot_10 : decode cX11_wasSlot 10 = .ok (.iadd, 1) := by decide +kernel
theorem dX11_wasSlot_11 : decode cX11_wasSlot 11 = .ok (.ireturn, 1) := by decide +kernel
theorem dX11_wallAt_0 : decode cX11_wallAt 0 = .ok (.sipush 784, 3) := by decide +kernel
theorem dX11_wallAt_3 : decode cX11_wallAt 3 = .ok (.bipush 12, 2) := by decide +kernel
theorem dX11_wallAt_5 : decode cX11_wallAt 5 = .ok (.iload_n 1, 1) := by decide +kernel
theorem dX11_wallAt_6 : decode cX11_wallAt 6 = .ok (.imul, 1) := by decide +kernel
theorem dX11_wallAt_7 : decode cX11_wallAt 7 = .ok (.iadd, 1) := by decide +kernel
theorem dX11_wallAt_8 : decode cX11_wallAt 8 = .ok (.iload_n 0, 1) := by decide +kernel
theorem dX11_wallAt_9 : decode cX11_wallAt 9 = .ok (.iadd, 1) := by decide +kernel
theorem dX11_wallAt_10 : decode cX11_wallAt 10 = .ok (.ireturn, 1) := by decide +kernel
theorem dX11_ofUnit_0 : decode cX11_ofUnit 0 = .ok (.aload_n 0, 1) := by decide +kernel
theorem dX11_ofUnit_1 : decode cX11_ofUnit 1 = .ok (.getfield 9, 3) := by decide +kernel
theorem dX11_ofUnit_4 : decode cX11_ofUnit 4 = .ok (.iload_n 1, 1) := by decide +kernel
theorem dX11_ofUnit_5 : decode cX11_ofUnit 5 = .ok (.iload_n 2, 1) := by decide +kernel
theorem dX11_ofUnit_6 : decode cX11_ofUnit 6 = .ok (.invokestatic 80, 3) := by decide +kernel
theorem dX11_ofUnit_9 : decode cX11_ofUnit 9 = .ok (.iaload, 1) := by decide +kernel
theorem dX11_ofUnit_10 : decode cX11_ofUnit 10 = .ok (.ireturn, 1) := by decide +kernel
theorem dX11_ofPicket_0 : decode cX11_ofPicket 0 = .ok (.aload_n 0, 1) := by decide +kernel
theorem dX11_ofPicket_1 : decode cX11_ofPicket 1 = .ok (.getfield 9, 3) := by decide +kernel
theorem dX11_ofPicket_4 : decode cX11_ofPicket 4 = .ok (.iload_n 1, 1) := by decide +kernel
theorem dX11_ofPicket_5 : decode cX11_ofPicket 5 = .ok (.iload_n 2, 1) := by decide +kernel
theorem dX11_ofPicket_6 : decode cX11_ofPicket 6 = .ok (.invokestatic 84, 3) := by decide +kernel
theorem dX11_ofPicket_9 : decode cX11_ofPicket 9 = .ok (.iaload, 1) := by decide +kernel
theorem dX11_ofPicket_10 : decode cX11_ofPicket 10 = .ok (.ireturn, 1) := by decide +kernel
theorem dX11_ofOrder_0 : decode cX11_ofOrder 0 = .ok (.aload_n 0, 1) := by decide +kernel
theorem dX11_ofOrder_1 : decode cX11_ofOrder 1 = .ok (.getfield 9, 3) := by decide +kernel
theorem dX11_ofOrder_4 : decode cX11_ofOrder 4 = .ok (.iload_n 1, 1) := by decide +kernel
theorem dX11_ofOrder_5 : decode cX11_ofOrder 5 = .ok (.iload_n 2, 1) := by decide +kernel
theorem dX11_ofOrder_6 : decode cX11_ofOrder 6 = .ok (.invokestatic 87, 3) := by decide +kernel
theorem dX11_ofOrder_9 : decode cX11_ofOrder 9 = .ok (.iaload, 1) := by decide +kernel
theorem dX11_ofOrder_10 : decode cX11_ofOrder 10 = .ok (.ireturn, 1) := by decide +kernel
theorem dX11_turnNow_0 : decode cX11_turnNow 0 = .ok (.aload_n 0, 1) := by decide +kernel
theorem dX11_turnNow_1 : decode cX11_turnNow 1 = .ok (.getfield 9, 3) := by decide +kernel
theorem dX11_turnNow_4 : decode cX11_turnNow 4 = .ok (.iconst 5, 1) := by decide +kernel
theorem dX11_turnNow_5 : decode cX11_turnNow 5 = .ok (.iaload, 1) := by decide +kernel
theorem dX11_turnNow_6 : decode cX11_turnNow 6 = .ok (.ireturn, 1) := by decide +kernel
theorem dX11_isUnit_0 : decode cX11_isUnit 0 = .ok (.iload_n 1, 1) := by decide +kernel
theorem dX11_isUnit_1 : decode cX11_isUnit 1 = .ok (.iconst 0, 1) := by decide +kernel
theorem dX11_isUnit_2 : decode cX11_isUnit 2 = .ok (.aload_n 0, 1) := by decide +kernel
theorem dX11_isUnit_3 : decode cX11_isUnit 3 = .ok (.getfield 9, 3) := by decide +kernel
theorem dX11_isUnit_6 : decode cX11_isUnit 6 = .ok (.iconst 2, 1) := by decide +kernel
theorem dX11_isUnit_7 : decode cX11_isUnit 7 = .ok (.iaload, 1) := by decide +kernel
theorem dX11_isUnit_8 : decode cX11_isUnit 8 = .ok (.iconst 1, 1) := by decide +kernel
theorem dX11_isUnit_9 : decode cX11_isUnit 9 = .ok (.isub, 1) := by decide +kernel
theorem dX11_isUnit_10 : decode cX11_isUnit 10 = .ok (.invokestatic 90, 3) := by decide +kernel
theorem dX11_isUnit_13 : decode cX11_isUnit 13 = .ok (.ireturn, 1) := by decide +kernel
theorem dX11_isPicket_0 : decode cX11_isPicket 0 = .ok (.iload_n 1, 1) := by decide +kernel
theorem dX11_isPicket_1 : decode cX11_isPicket 1 = .ok (.iconst 0, 1) := by decide +kernel
theorem dX11_isPicket_2 : decode cX11_isPicket 2 = .ok (.aload_n 0, 1) := by decide +kernel
theorem dX11_isPicket_3 : decode cX11_isPicket 3 = .ok (.getfield 9, 3) := by decide +kernel
theorem dX11_isPicket_6 : decode cX11_isPicket 6 = .ok (.iconst 3, 1) := by decide +kernel
theorem dX11_isPicket_7 : decode cX11_isPicket 7 = .ok (.iaload, 1) := by decide +kernel
theorem dX11_isPicket_8 : decode cX11_isPicket 8 = .ok (.iconst 1, 1) := by decide +kernel
theorem dX11_isPicket_9 : decode cX11_isPicket 9 = .ok (.isub, 1) := by decide +kernel
theorem dX11_isPicket_10 : decode cX11_isPicket 10 = .ok (.invokestatic 90, 3) := by decide +kernel
theorem dX11_isPicket_13 : decode cX11_isPicket 13 = .ok (.ireturn, 1) := by decide +kernel
theorem dX11_isOrder_0 : decode cX11_isOrder 0 = .ok (.iload_n 1, 1) := by decide +kernel
theorem dX11_isOrder_1 : decode cX11_isOrder 1 = .ok (.iconst 0, 1) := by decide +kernel
theorem dX11_isOrder_2 : decode cX11_isOrder 2 = .ok (.aload_n 0, 1) := by decide +kernel
theorem dX11_isOrder_3 : decode cX11_isOrder 3 = .ok (.getfield 9, 3) := by decide +kernel
theorem dX11_isOrder_6 : decode cX11_isOrder 6 = .ok (.iconst 4, 1) := by decide +kernel
theorem dX11_isOrder_7 : decode cX11_isOrder 7 = .ok (.iaload, 1) := by decide +kernel
theorem dX11_isOrder_8 : decode cX11_isOrder 8 = .ok (.iconst 1, 1) := by decide +kernel
theorem dX11_isOrder_9 : decode cX11_isOrder 9 = .ok (.isub, 1) := by decide +kernel
theorem dX11_isOrder_10 : decode cX11_isOrder 10 = .ok (.invokestatic 90, 3) := by decide +kernel
theorem dX11_isOrder_13 : decode cX11_isOrder 13 = .ok (.ireturn, 1) := by decide +kernel
theorem dX11_isPlan_0 : decode cX11_isPlan 0 = .ok (.iload_n 1, 1) := by decide +kernel
theorem dX11_isPlan_1 : decode cX11_isPlan 1 = .ok (.iconst 0, 1) := by decide +kernel
theorem dX11_isPlan_2 : decode cX11_isPlan 2 = .ok (.aload_n 0, 1) := by decide +kernel
theorem dX11_isPlan_3 : decode cX11_isPlan 3 = .ok (.getfield 9, 3) := by decide +kernel
theorem dX11_isPlan_6 : decode cX11_isPlan 6 = .ok (.bipush 8, 2) := by decide +kernel
theorem dX11_isPlan_8 : decode cX11_isPlan 8 = .ok (.iaload, 1) := by decide +kernel
theorem dX11_isPlan_9 : decode cX11_isPlan 9 = .ok (.iconst 1, 1) := by decide +kernel
theorem dX11_isPlan_10 : decode cX11_isPlan 10 = .ok (.isub, 1) := by decide +kernel
theorem dX11_isPlan_11 : decode cX11_isPlan 11 = .ok (.invokestatic 90, 3) := by decide +kernel
theorem dX11_isPlan_14 : decode cX11_isPlan 14 = .ok (.ireturn, 1) := by decide +kernel
theorem dX11_isCell_0 : decode cX11_isCell 0 = .ok (.iload_n 1, 1) := by decide +kernel
theorem dX11_isCell_1 : decode cX11_isCell 1 = .ok (.iconst 0, 1) := by decide +kernel
theorem dX11_isCell_2 : decode cX11_isCell 2 = .ok (.aload_n 0, 1) := by decide +kernel
theorem dX11_isCell_3 : decode cX11_isCell 3 = .ok (.getfield 9, 3) := by decide +kernel
theorem dX11_isCell_6 : decode cX11_isCell 6 = .ok (.iconst 0, 1) := by decide +kernel
theorem dX11_isCell_7 : decode cX11_isCell 7 = .ok (.iaload, 1) := by decide +kernel
theorem dX11_isCell_8 : decode cX11_isCell 8 = .ok (.iconst 1, 1) := by decide +kernel
theorem dX11_isCell_9 : decode cX11_isCell 9 = .ok (.isub, 1) := by decide +kernel
theorem dX11_isCell_10 : decode cX11_isCell 10 = .ok (.invokestatic 90, 3) := by decide +kernel
theorem dX11_isCell_13 : decode cX11_isCell 13 = .ok (.ifCond .eq 23, 3) := by decide +kernel
theorem dX11_isCell_16 : decode cX11_isCell 16 = .ok (.iload_n 2, 1) := by decide +kernel
theorem dX11_isCell_17 : decode cX11_isCell 17 = .ok (.iconst 0, 1) := by decide +kernel
theorem dX11_isCell_18 : decode cX11_isCell 18 = .ok (.aload_n 0, 1) := by decide +kernel
theorem dX11_isCell_19 : decode cX11_isCell 19 = .ok (.getfield 9, 3) := by decide +kernel
theorem dX11_isCell_22 : decode cX11_isCell 22 = .ok (.iconst 1, 1) := by decide +kernel
theorem dX11_isCell_23 : decode cX11_isCell 23 = .ok (.iaload, 1) := by decide +kernel
theorem dX11_isCell_24 : decode cX11_isCell 24 = .ok (.iconst 1, 1) := by decide +kernel
theorem dX11_isCell_25 : decode cX11_isCell 25 = .ok (.isub, 1) := by decide +kernel
theorem dX11_isCell_26 : decode cX11_isCell 26 = .ok (.invokestatic 90, 3) := by decide +kernel
theorem dX11_isCell_29 : decode cX11_isCell 29 = .ok (.ifCond .eq 7, 3) := by decide +kernel
theorem dX11_isCell_32 : decode cX11_isCell 32 = .ok (.iconst 1, 1) := by decide +kernel
theorem dX11_isCell_33 : decode cX11_isCell 33 = .ok (.goto 4, 3) := by decide +kernel
theorem dX11_isCell_36 : decode cX11_isCell 36 = .ok (.iconst 0, 1) := by decide +kernel
theorem dX11_isCell_37 : decode cX11_isCell 37 = .ok (.ireturn, 1) := by decide +kernel
theorem dX11_isFree_0 : decode cX11_isFree 0 = .ok (.aload_n 0, 1) := by decide +kernel
theorem dX11_isFree_1 : decode cX11_isFree 1 = .ok (.iload_n 1, 1) := by decide +kernel
theorem dX11_isFree_2 : decode cX11_isFree 2 = .ok (.iload_n 2, 1) := by decide +kernel
theorem dX11_isFree_3 : decode cX11_isFree 3 = .ok (.invokevirtual 94, 3) := by decide +kernel
theorem dX11_isFree_6 : decode cX11_isFree 6 = .ok (.ifCond .eq 20, 3) := by decide +kernel
theorem dX11_isFree_9 : decode cX11_isFree 9 = .ok (.aload_n 0, 1) := by decide +kernel
theorem dX11_isFree_10 : decode cX11_isFree 10 = .ok (.getfield 9, 3) := by decide +kernel
theorem dX11_isFree_13 : decode cX11_isFree 13 = .ok (.iload_n 1, 1) := by decide +kernel
theorem dX11_isFree_14 : decode cX11_isFree 14 = .ok (.iload_n 2, 1) := by decide +kernel
theorem dX11_isFree_15 : decode cX11_isFree 15 = .ok (.invokestatic 98, 3) := by decide +kernel
theorem dX11_isFree_18 : decode cX11_isFree 18 = .ok (.iaload, 1) := by decide +kernel
theorem dX11_isFree_19 : decode cX11_isFree 19 = .ok (.ifCond .ne 7, 3) := by decide +kernel
theorem dX11_isFree_22 : decode cX11_isFree 22 = .ok (.iconst 1, 1) := by decide +kernel
theorem dX11_isFree_23 : decode cX11_isFree 23 = .ok (.goto 4, 3) := by decide +kernel
theorem dX11_isFree_26 : decode cX11_isFree 26 = .ok (.iconst 0, 1) := by decide +kernel
theorem dX11_isFree_27 : decode cX11_isFree 27 = .ok (.ireturn, 1) := by decide +kernel
theorem dX11_beside_0 : decode cX11_beside 0 = .ok (.iload_n 1, 1) := by decide +kernel
theorem dX11_beside_1 : decode cX11_beside 1 = .ok (.ifCond .eq 23, 3) := by decide +kernel
theorem dX11_beside_4 : decode cX11_beside 4 = .ok (.iload_n 0, 1) := by decide +kernel
theorem dX11_beside_5 : decode cX11_beside 5 = .ok (.iconst 1, 1) := by decide +kernel
theorem dX11_beside_6 : decode cX11_beside 6 = .ok (.if_icmp .ne 7, 3) := by decide +kernel
theorem dX11_beside_9 : decode cX11_beside 9 = .ok (.iconst 1, 1) := by decide +kernel
theorem dX11_beside_10 : decode cX11_beside 10 = .ok (.goto 13, 3) := by decide +kernel
theorem dX11_beside_13 : decode cX11_beside 13 = .ok (.iload_n 0, 1) := by decide +kernel
theorem dX11_beside_14 : decode cX11_beside 14 = .ok (.iconst 3, 1) := by decide +kernel
theorem dX11_beside_15 : decode cX11_beside 15 = .ok (.if_icmp .ne 7, 3) := by decide +kernel
theorem dX11_beside_18 : decode cX11_beside 18 = .ok (.iconst (-1), 1) := by decide +kernel
theorem dX11_beside_19 : decode cX11_beside 19 = .ok (.goto 4, 3) := by decide +kernel
theorem dX11_beside_22 : decode cX11_beside 22 = .ok (.iconst 0, 1) := by decide +kernel
theorem dX11_beside_23 : decode cX11_beside 23 = .ok (.ireturn, 1) := by decide +kernel
theorem dX11_beside_24 : decode cX11_beside 24 = .ok (.iload_n 0, 1) := by decide +kernel
theorem dX11_beside_25 : decode cX11_beside 25 = .ok (.ifCond .ne 7, 3) := by decide +kernel
theorem dX11_beside_28 : decode cX11_beside 28 = .ok (.iconst (-1), 1) := by decide +kernel
theorem dX11_beside_29 : decode cX11_beside 29 = .ok (.goto 13, 3) := by decide +kernel
theorem dX11_beside_32 : decode cX11_beside 32 = .ok (.iload_n 0, 1) := by decide +kernel
theorem dX11_beside_33 : decode cX11_beside 33 = .ok (.iconst 2, 1) := by decide +kernel
theorem dX11_beside_34 : decode cX11_beside 34 = .ok (.if_icmp .ne 7, 3) := by decide +kernel
theorem dX11_beside_37 : decode cX11_beside 37 = .ok (.iconst 1, 1) := by decide +kernel
theorem dX11_beside_38 : decode cX11_beside 38 = .ok (.goto 4, 3) := by decide +kernel
theorem dX11_beside_41 : decode cX11_beside 41 = .ok (.iconst 0, 1) := by decide +kernel
theorem dX11_beside_42 : decode cX11_beside 42 = .ok (.ireturn, 1) := by decide +kernel
theorem dX11_layFar_0 : decode cX11_layFar 0 = .ok (.iconst 0, 1) := by decide +kernel
theorem dX11_layFar_1 : decode cX11_layFar 1 = .ok (.istore_n 3, 1) := by decide +kernel
theorem dX11_layFar_2 : decode cX11_layFar 2 = .ok (.iload_n 3, 1) := by decide +kernel
theorem dX11_layFar_3 : decode cX11_layFar 3 = .ok (.sipush 144, 3) := by decide +kernel
theorem dX11_layFar_6 : decode cX11_layFar 6 = .ok (.if_icmp .ge 18, 3) := by decide +kernel
theorem dX11_layFar_9 : decode cX11_layFar 9 = .ok (.aload_n 0, 1) := by decide +kernel
theorem dX11_layFar_10 : decode cX11_layFar 10 = .ok (.getfield 26, 3) := by decide +kernel
theorem dX11_layFar_13 : decode cX11_layFar 13 = .ok (.iload_n 3, 1) := by decide +kernel
theorem dX11_layFar_14 : decode cX11_layFar 14 = .ok (.sipush 1000, 3) := by decide +kernel
theorem dX11_layFar_17 : decode cX11_layFar 17 = .ok (.iastore, 1) := by decide +kernel
theorem dX11_layFar_18 : decode cX11_layFar 18 = .ok (.iinc 3 1, 3) := by decide +kernel
theorem dX11_layFar_21 : decode cX11_layFar 21 = .ok (.goto (-19), 3) := by decide +kernel
theorem dX11_layFar_24 : decode cX11_layFar 24 = .ok (.aload_n 0, 1) := by decide +kernel
theorem dX11_layFar_25 : decode cX11_layFar 25 = .ok (.iload_n 1, 1) := by decide +kernel
theorem dX11_layFar_26 : decode cX11_layFar 26 = .ok (.iload_n 2, 1) := by decide +kernel
theorem dX11_layFar_27 : decode cX11_layFar 27 = .ok (.invokevirtual 101, 3) := by decide +kernel
theorem dX11_layFar_30 : decode cX11_layFar 30 = .ok (.ifCond .ne 4, 3) := by decide +kernel
theorem dX11_layFar_33 : decode cX11_layFar 33 = .ok (.return_, 1) := by decide +kernel
theorem dX11_layFar_34 : decode cX11_layFar 34 = .ok (.aload_n 0, 1) := by decide +kernel
theorem dX11_layFar_35 : decode cX11_layFar 35 = .ok (.getfield 26, 3) := by decide +kernel
theorem dX11_layFar_38 : decode cX11_layFar 38 = .ok (.bipush 12, 2) := by decide +kernel
theorem dX11_layFar_40 : decode cX11_layFar 40 = .ok (.iload_n 2, 1) := by decide +kernel
theorem dX11_layFar_41 : decode cX11_layFar 41 = .ok (.imul, 1) := by decide +kernel
theorem dX11_layFar_42 : decode cX11_layFar 42 = .ok (.iload_n 1, 1) := by decide +kernel
theorem dX11_layFar_43 : decode cX11_layFar 43 = .ok (.iadd, 1) := by decide +kernel
theorem dX11_layFar_44 : decode cX11_layFar 44 = .ok (.iconst 0, 1) := by decide +kernel
theorem dX11_layFar_45 : decode cX11_layFar 45 = .ok (.iastore, 1) := by decide +kernel
theorem dX11_layFar_46 : decode cX11_layFar 46 = .ok (.aload_n 0, 1) := by decide +kernel
theorem dX11_layFar_47 : decode cX11_layFar 47 = .ok (.getfield 29, 3) := by decide +kernel
theorem dX11_layFar_50 : decode cX11_layFar 50 = .ok (.iconst 0, 1) := by decide +kernel
theorem dX11_layFar_51 : decode cX11_layFar 51 = .ok (.bipush 12, 2) := by decide +kernel
theorem dX11_layFar_53 : decode cX11_layFar 53 = .ok (.iload_n 2, 1) := by decide +kernel
theorem dX11_layFar_54 : decode cX11_layFar 54 = .ok (.imul, 1) := by decide +kernel
theorem dX11_layFar_55 : decode cX11_layFar 55 = .ok (.iload_n 1, 1) := by decide +kernel
theorem dX11_layFar_56 : decode cX11_layFar 56 = .ok (.iadd, 1) := by decide +kernel
theorem dX11_layFar_57 : decode cX11_layFar 57 = .ok (.iastore, 1) := by decide +kernel
theorem dX11_layFar_58 : decode cX11_layFar 58 = .ok (.iconst 1, 1) := by decide +kernel
theorem dX11_layFar_59 : decode cX11_layFar 59 = .ok (.istore_n 3, 1) := by decide +kernel
theorem dX11_layFar_60 : decode cX11_layFar 60 = .ok (.iconst 0, 1) := by decide +kernel
theorem dX11_layFar_61 : decode cX11_layFar 61 = .ok (.istore 4, 2) := by decide +kernel
theorem dX11_layFar_63 : decode cX11_layFar 63 = .ok (.iload 4, 2) := by decide +kernel
theorem dX11_layFar_65 : decode cX11_layFar 65 = .ok (.iload_n 3, 1) := by decide +kernel
theorem dX11_layFar_66 : decode cX11_layFar 66 = .ok (.if_icmp .ge 22, 3) := by decide +kernel
theorem dX11_layFar_69 : decode cX11_layFar 69 = .ok (.aload_n 0, 1) := by decide +kernel
theorem dX11_layFar_70 : decode cX11_layFar 70 = .ok (.aload_n 0, 1) := by decide +kernel
theorem dX11_layFar_71 : decode cX11_layFar 71 = .ok (.getfield 29, 3) := by decide +kernel
theorem dX11_layFar_74 : decode cX11_layFar 74 = .ok (.iload 4, 2) := by decide +kernel
theorem dX11_layFar_76 : decode cX11_layFar 76 = .ok (.iaload, 1) := by decide +kernel
theorem dX11_layFar_77 : decode cX11_layFar 77 = .ok (.iload_n 3, 1) := by decide +kernel
theorem dX11_layFar_78 : decode cX11_layFar 78 = .ok (.invokevirtual 104, 3) := by decide +kernel
theorem dX11_layFar_81 : decode cX11_layFar 81 = .ok (.istore_n 3, 1) := by decide +kernel
theorem dX11_layFar_82 : decode cX11_layFar 82 = .ok (.iinc 4 1, 3) := by decide +kernel
theorem dX11_layFar_85 : decode cX11_layFar 85 = .ok (.goto (-22), 3) := by decide +kernel
theorem dX11_layFar_88 : decode cX11_layFar 88 = .ok (.return_, 1) := by decide +kernel
theorem dX11_spread_0 : decode cX11_spread 0 = .ok (.iload_n 2, 1) := by decide +kernel
theorem dX11_spread_1 : decode cX11_spread 1 = .ok (.istore_n 3, 1) := by decide +kernel
theorem dX11_spread_2 : decode cX11_spread 2 = .ok (.iconst 0, 1) := by decide +kernel
theorem dX11_spread_3 : decode cX11_spread 3 = .ok (.istore 4, 2) := by decide +kernel
theorem dX11_spread_5 : decode cX11_spread 5 = .ok (.iload 4, 2) := by decide +kernel
theorem dX11_spread_7 : decode cX11_spread 7 = .ok (.iconst 4, 1) := by decide +kernel
theorem dX11_spread_8 : decode cX11_spread 8 = .ok (.if_icmp .ge 103, 3) := by decide +kernel
theorem dX11_spread_11 : decode cX11_spread 11 = .ok (.iload_n 1, 1) := by decide +kernel
theorem dX11_spread_12 : decode cX11_spread 12 = .ok (.bipush 12, 2) := by decide +kernel
theorem dX11_spread_14 : decode cX11_spread 14 = .ok (.irem, 1) := by decide +kernel
theorem dX11_spread_15 : decode cX11_spread 15 = .ok (.iload 4, 2) := by decide +kernel
theorem dX11_spread_17 : decode cX11_spread 17 = .ok (.iconst 1, 1) := by decide +kernel
theorem dX11_spread_18 : decode cX11_spread 18 = .ok (.invokestatic 107, 3) := by decide +kernel
theorem dX11_spread_21 : decode cX11_spread 21 = .ok (.iadd, 1) := by decide +kernel
theorem dX11_spread_22 : decode cX11_spread 22 = .ok (.istore 5, 2) := by decide +kernel
theorem dX11_spread_24 : decode cX11_spread 24 = .ok (.iload_n 1, 1) := by decide +kernel
theorem dX11_spread_25 : decode cX11_spread 25 = .ok (.bipush 12, 2) := by decide +kernel
theorem dX11_spread_27 : decode cX11_spread 27 = .ok (.idiv, 1) := by decide +kernel
theorem dX11_spread_28 : decode cX11_spread 28 = .ok (.iload 4, 2) := by decide +kernel
theorem dX11_spread_30 : decode cX11_spread 30 = .ok (.iconst 0, 1) := by decide +kernel
theorem dX11_spread_31 : decode cX11_spread 31 = .ok (.invokestatic 107, 3) := by decide +kernel
theorem dX11_spread_34 : decode cX11_spread 34 = .ok (.iadd, 1) := by decide +kernel
theorem dX11_spread_35 : decode cX11_spread 35 = .ok (.istore 6, 2) := by decide +kernel
theorem dX11_spread_37 : decode cX11_spread 37 = .ok (.aload_n 0, 1) := by decide +kernel
theorem dX11_spread_38 : decode cX11_spread 38 = .ok (.iload 5, 2) := by decide +kernel
theorem dX11_spread_40 : decode cX11_spread 40 = .ok (.iload 6, 2) := by decide +kernel
theorem dX11_spread_42 : decode cX11_spread 42 = .ok (.invokevirtual 101, 3) := by decide +kernel
theorem dX11_spread_45 : decode cX11_spread 45 = .ok (.ifCond .eq 60, 3) := by decide +kernel
theorem dX11_spread_48 : decode cX11_spread 48 = .ok (.aload_n 0, 1) := by decide +kernel
theorem dX11_spread_49 : decode cX11_spread 49 = .ok (.getfield 26, 3) := by decide +kernel
theorem dX11_spread_52 : decode cX11_spread 52 = .ok (.bipush 12, 2) := by decide +kernel
theorem dX11_spread_54 : decode cX11_spread 54 = .ok (.iload 6, 2) := by decide +kernel
theorem dX11_spread_56 : decode cX11_spread 56 = .ok (.imul, 1) := by decide +kernel
theorem dX11_spread_57 : decode cX11_spread 57 = .ok (.iload 5, 2) := by decide +kernel
theorem dX11_spread_59 : decode cX11_spread 59 = .ok (.iadd, 1) := by decide +kernel
theorem dX11_spread_60 : decode cX11_spread 60 = .ok (.iaload, 1) := by decide +kernel
theorem dX11_spread_61 : decode cX11_spread 61 = .ok (.sipush 1000, 3) := by decide +kernel
theorem dX11_spread_64 : decode cX11_spread 64 = .ok (.if_icmp .ne 41, 3) := by decide +kernel
theorem dX11_spread_67 : decode cX11_spread 67 = .ok (.aload_n 0, 1) := by decide +kernel
theorem dX11_spread_68 : decode cX11_spread 68 = .ok (.getfield 26, 3) := by decide +kernel
theorem dX11_spread_71 : decode cX11_spread 71 = .ok (.bipush 12, 2) := by decide +kernel
theorem dX11_spread_73 : decode cX11_spread 73 = .ok (.iload 6, 2) := by decide +kernel
theorem dX11_spread_75 : decode cX11_spread 75 = .ok (.imul, 1) := by decide +kernel
theorem dX11_spread_76 : decode cX11_spread 76 = .ok (.iload 5, 2) := by decide +kernel
theorem dX11_spread_78 : decode cX11_spread 78 = .ok (.iadd, 1) := by decide +kernel
theorem dX11_spread_79 : decode cX11_spread 79 = .ok (.aload_n 0, 1) := by decide +kernel
theorem dX11_spread_80 : decode cX11_spread 80 = .ok (.getfield 26, 3) := by decide +kernel
theorem dX11_spread_83 : decode cX11_spread 83 = .ok (.iload_n 1, 1) := by decide +kernel
theorem dX11_spread_84 : decode cX11_spread 84 = .ok (.iaload, 1) := by decide +kernel
theorem dX11_spread_85 : decode cX11_spread 85 = .ok (.iconst 1, 1) := by decide +kernel
theorem dX11_spread_86 : decode cX11_spread 86 = .ok (.iadd, 1) := by decide +kernel
theorem dX11_spread_87 : decode cX11_spread 87 = .ok (.iastore, 1) := by decide +kernel
theorem dX11_spread_88 : decode cX11_spread 88 = .ok (.aload_n 0, 1) := by decide +kernel
theorem dX11_spread_89 : decode cX11_spread 89 = .ok (.getfield 29, 3) := by decide +kernel
theorem dX11_spread_92 : decode cX11_spread 92 = .ok (.iload_n 3, 1) := by decide +kernel
theorem dX11_spread_93 : decode cX11_spread 93 = .ok (.bipush 12, 2) := by decide +kernel
theorem dX11_spread_95 : decode cX11_spread 95 = .ok (.iload 6, 2) := by decide +kernel
theorem dX11_spread_97 : decode cX11_spread 97 = .ok (.imul, 1) := by decide +kernel
theorem dX11_spread_98 : decode cX11_spread 98 = .ok (.iload 5, 2) := by decide +kernel
theorem dX11_spread_100 : decode cX11_spread 100 = .ok (.iadd, 1) := by decide +kernel
theorem dX11_spread_101 : decode cX11_spread 101 = .ok (.iastore, 1) := by decide +kernel
theorem dX11_spread_102 : decode cX11_spread 102 = .ok (.iinc 3 1, 3) := by decide +kernel
theorem dX11_spread_105 : decode cX11_spread 105 = .ok (.iinc 4 1, 3) := by decide +kernel
theorem dX11_spread_108 : decode cX11_spread 108 = .ok (.goto (-103), 3) := by decide +kernel
theorem dX11_spread_111 : decode cX11_spread 111 = .ok (.iload_n 3, 1) := by decide +kernel
theorem dX11_spread_112 : decode cX11_spread 112 = .ok (.ireturn, 1) := by decide +kernel
theorem dX11_stepFrom_0 : decode cX11_stepFrom 0 = .ok (.iconst 0, 1) := by decide +kernel
theorem dX11_stepFrom_1 : decode cX11_stepFrom 1 = .ok (.istore_n 3, 1) := by decide +kernel
theorem dX11_stepFrom_2 : decode cX11_stepFrom 2 = .ok (.iload_n 3, 1) := by decide +kernel
theorem dX11_stepFrom_3 : decode cX11_stepFrom 3 = .ok (.iconst 4, 1) := by decide +kernel
theorem dX11_stepFrom_4 : decode cX11_stepFrom 4 = .ok (.if_icmp .ge 67, 3) := by decide +kernel
theorem dX11_stepFrom_7 : decode cX11_stepFrom 7 = .ok (.iload_n 1, 1) := by decide +kernel
theorem dX11_stepFrom_8 : decode cX11_stepFrom 8 = .ok (.iload_n 3, 1) := by decide +kernel
theorem dX11_stepFrom_9 : decode cX11_stepFrom 9 = .ok (.iconst 1, 1) := by decide +kernel
theorem dX11_stepFrom_10 : decode cX11_stepFrom 10 = .ok (.invokestatic 107, 3) := by decide +kernel
theorem dX11_stepFrom_13 : decode cX11_stepFrom 13 = .ok (.iadd, 1) := by decide +kernel
theorem dX11_stepFrom_14 : decode cX11_stepFrom 14 = .ok (.istore 4, 2) := by decide +kernel
theorem dX11_stepFrom_16 : decode cX11_stepFrom 16 = .ok (.iload_n 2, 1) := by decide +kernel
theorem dX11_stepFrom_17 : decode cX11_stepFrom 17 = .ok (.iload_n 3, 1) := by decide +kernel
theorem dX11_stepFrom_18 : decode cX11_stepFrom 18 = .ok (.iconst 0, 1) := by decide +kernel
theorem dX11_stepFrom_19 : decode cX11_stepFrom 19 = .ok (.invokestatic 107, 3) := by decide +kernel
theorem dX11_stepFrom_22 : decode cX11_stepFrom 22 = .ok (.iadd, 1) := by decide +kernel
theorem dX11_stepFrom_23 : decode cX11_stepFrom 23 = .ok (.istore 5, 2) := by decide +kernel
theorem dX11_stepFrom_25 : decode cX11_stepFrom 25 = .ok (.aload_n 0, 1) := by decide +kernel
theorem dX11_stepFrom_26 : decode cX11_stepFrom 26 = .ok (.iload 4, 2) := by decide +kernel
theorem dX11_stepFrom_28 : decode cX11_stepFrom 28 = .ok (.iload 5, 2) := by decide +kernel
theorem dX11_stepFrom_30 : decode cX11_stepFrom 30 = .ok (.invokevirtual 101, 3) := by decide +kernel
theorem dX11_stepFrom_33 : decode cX11_stepFrom 33 = .ok (.ifCond .eq 32, 3) := by decide +kernel
theorem dX11_stepFrom_36 : decode cX11_stepFrom 36 = .ok (.aload_n 0, 1) := by decide +kernel
theorem dX11_stepFrom_37 : decode cX11_stepFrom 37 = .ok (.getfield 26, 3) := by decide +kernel
theorem dX11_stepFrom_40 : decode cX11_stepFrom 40 = .ok (.bipush 12, 2) := by decide +kernel
theorem dX11_stepFrom_42 : decode cX11_stepFrom 42 = .ok (.iload 5, 2) := by decide +kernel
theorem dX11_stepFrom_44 : decode cX11_stepFrom 44 = .ok (.imul, 1) := by decide +kernel
theorem dX11_stepFrom_45 : decode cX11_stepFrom 45 = .ok (.iload 4, 2) := by decide +kernel
theorem dX11_stepFrom_47 : decode cX11_stepFrom 47 = .ok (.iadd, 1) := by decide +kernel
theorem dX11_stepFrom_48 : decode cX11_stepFrom 48 = .ok (.iaload, 1) := by decide +kernel
theorem dX11_stepFrom_49 : decode cX11_stepFrom 49 = .ok (.aload_n 0, 1) := by decide +kernel
theorem dX11_stepFrom_50 : decode cX11_stepFrom 50 = .ok (.getfield 26, 3) := by decide +kernel
theorem dX11_stepFrom_53 : decode cX11_stepFrom 53 = .ok (.bipush 12, 2) := by decide +kernel
theorem dX11_stepFrom_55 : decode cX11_stepFrom 55 = .ok (.iload_n 2, 1) := by decide +kernel
theorem dX11_stepFrom_56 : decode cX11_stepFrom 56 = .ok (.imul, 1) := by decide +kernel
theorem dX11_stepFrom_57 : decode cX11_stepFrom 57 = .ok (.iload_n 1, 1) := by decide +kernel
theorem dX11_stepFrom_58 : decode cX11_stepFrom 58 = .ok (.iadd, 1) := by decide +kernel
theorem dX11_stepFrom_59 : decode cX11_stepFrom 59 = .ok (.iaload, 1) := by decide +kernel
theorem dX11_stepFrom_60 : decode cX11_stepFrom 60 = .ok (.if_icmp .ge 5, 3) := by decide +kernel
theorem dX11_stepFrom_63 : decode cX11_stepFrom 63 = .ok (.iload_n 3, 1) := by decide +kernel
theorem dX11_stepFrom_64 : decode cX11_stepFrom 64 = .ok (.ireturn, 1) := by decide +kernel
theorem dX11_stepFrom_65 : decode cX11_stepFrom 65 = .ok (.iinc 3 1, 3) := by decide +kernel
theorem dX11_stepFrom_68 : decode cX11_stepFrom 68 = .ok (.goto (-66), 3) := by decide +kernel
theorem dX11_stepFrom_71 : decode cX11_stepFrom 71 = .ok (.iconst (-1), 1) := by decide +kernel
theorem dX11_stepFrom_72 : decode cX11_stepFrom 72 = .ok (.ireturn, 1) := by decide +kernel
theorem dX11_watches_0 : decode cX11_watches 0 = .ok (.iload_n 2, 1) := by decide +kernel
theorem dX11_watches_1 : decode cX11_watches 1 = .ok (.aload_n 0, 1) := by decide +kernel
theorem dX11_watches_2 : decode cX11_watches 2 = .ok (.iload_n 1, 1) := by decide +kernel
theorem dX11_watches_3 : decode cX11_watches 3 = .ok (.iconst 3, 1) := by decide +kernel
theorem dX11_watches_4 : decode cX11_watches 4 = .ok (.invokevirtual 111, 3) := by decide +kernel
theorem dX11_watches_7 : decode cX11_watches 7 = .ok (.irem, 1) := by decide +kernel
theorem dX11_watches_8 : decode cX11_watches 8 = .ok (.aload_n 0, 1) := by decide +kernel
theorem dX11_watches_9 : decode cX11_watches 9 = .ok (.iload_n 1, 1) := by decide +kernel
theorem dX11_watches_10 : decode cX11_watches 10 = .ok (.iconst 4, 1) := by decide +kernel
theorem dX11_watches_11 : decode cX11_watches 11 = .ok (.invokevirtual 111, 3) := by decide +kernel
theorem dX11_watches_14 : decode cX11_watches 14 = .ok (.aload_n 0, 1) := by decide +kernel
theorem dX11_watches_15 : decode cX11_watches 15 = .ok (.iload_n 1, 1) := by decide +kernel
theorem dX11_watches_16 : decode cX11_watches 16 = .ok (.iconst 5, 1) := by decide +kernel
theorem dX11_watches_17 : decode cX11_watches 17 = .ok (.invokevirtual 111, 3) := by decide +kernel
theorem dX11_watches_20 : decode cX11_watches 20 = .ok (.invokestatic 90, 3) := by decide +kernel
theorem dX11_watches_23 : decode cX11_watches 23 = .ok (.ireturn, 1) := by decide +kernel
theorem dX11_isNear_0 : decode cX11_isNear 0 = .ok (.aload_n 0, 1) := by decide +kernel
theorem dX11_isNear_1 : decode cX11_isNear 1 = .ok (.iload_n 1, 1) := by decide +kernel
theorem dX11_isNear_2 : decode cX11_isNear 2 = .ok (.iconst 2, 1) := by decide +kernel
theorem dX11_isNear_3 : decode cX11_isNear 3 = .ok (.invokevirtual 111, 3) := by decide +kernel
theorem dX11_isNear_6 : decode cX11_isNear 6 = .ok (.istore 4, 2) := by decide +kernel
theorem dX11_isNear_8 : decode cX11_isNear 8 = .ok (.iload_n 2, 1) := by decide +kernel
theorem dX11_isNear_9 : decode cX11_isNear 9 = .ok (.aload_n 0, 1) := by decide +kernel
theorem dX11_isNear_10 : decode cX11_isNear 10 = .ok (.iload_n 1, 1) := by decide +kernel
theorem dX11_isNear_11 : decode cX11_isNear 11 = .ok (.iconst 0, 1) := by decide +kernel
theorem dX11_isNear_12 : decode cX11_isNear 12 = .ok (.invokevirtual 111, 3) := by decide +kernel
theorem dX11_isNear_15 : decode cX11_isNear 15 = .ok (.isub, 1) := by decide +kernel
theorem dX11_isNear_16 : decode cX11_isNear 16 = .ok (.invokestatic 114, 3) := by decide +kernel
theorem dX11_isNear_19 : decode cX11_isNear 19 = .ok (.iload 4, 2) := by decide +kernel
theorem dX11_isNear_21 : decode cX11_isNear 21 = .ok (.if_icmp .gt 23, 3) := by decide +kernel
theorem dX11_isNear_24 : decode cX11_isNear 24 = .ok (.iload_n 3, 1) := by decide +kernel
theorem dX11_isNear_25 : decode cX11_isNear 25 = .ok (.aload_n 0, 1) := by decide +kernel
theorem dX11_isNear_26 : decode cX11_isNear 26 = .ok (.iload_n 1, 1) := by decide +kernel
theorem dX11_isNear_27 : decode cX11_isNear 27 = .ok (.iconst 1, 1) := by decide +kernel
theorem dX11_isNear_28 : decode cX11_isNear 28 = .ok (.invokevirtual 111, 3) := by decide +kernel
theorem dX11_isNear_31 : decode cX11_isNear 31 = .ok (.isub, 1) := by decide +kernel
theorem dX11_isNear_32 : decode cX11_isNear 32 = .ok (.invokestatic 114, 3) := by decide +kernel
theorem dX11_isNear_35 : decode cX11_isNear 35 = .ok (.iload 4, 2) := by decide +kernel
theorem dX11_isNear_37 : decode cX11_isNear 37 = .ok (.if_icmp .gt 7, 3) := by decide +kernel
theorem dX11_isNear_40 : decode cX11_isNear 40 = .ok (.iconst 1, 1) := by decide +kernel
theorem dX11_isNear_41 : decode cX11_isNear 41 = .ok (.goto 4, 3) := by decide +kernel
theorem dX11_isNear_44 : decode cX11_isNear 44 = .ok (.iconst 0, 1) := by decide +kernel
theorem dX11_isNear_45 : decode cX11_isNear 45 = .ok (.ireturn, 1) := by decide +kernel
theorem dX11_watcher_0 : decode cX11_watcher 0 = .ok (.iconst 0, 1) := by decide +kernel
theorem dX11_watcher_1 : decode cX11_watcher 1 = .ok (.istore 4, 2) := by decide +kernel
theorem dX11_watcher_3 : decode cX11_watcher 3 = .ok (.iload 4, 2) := by decide +kernel
theorem dX11_watcher_5 : decode cX11_watcher 5 = .ok (.aload_n 0, 1) := by decide +kernel
theorem dX11_watcher_6 : decode cX11_watcher 6 = .ok (.getfield 9, 3) := by decide +kernel
theorem dX11_watcher_9 : decode cX11_watcher 9 = .ok (.iconst 3, 1) := by decide +kernel
theorem dX11_watcher_10 : decode cX11_watcher 10 = .ok (.iaload, 1) := by decide +kernel
theorem dX11_watcher_11 : decode cX11_watcher 11 = .ok (.if_icmp .ge 33, 3) := by decide +kernel
theorem dX11_watcher_14 : decode cX11_watcher 14 = .ok (.aload_n 0, 1) := by decide +kernel
theorem dX11_watcher_15 : decode cX11_watcher 15 = .ok (.iload 4, 2) := by decide +kernel
theorem dX11_watcher_17 : decode cX11_watcher 17 = .ok (.iload_n 1, 1) := by decide +kernel
theorem dX11_watcher_18 : decode cX11_watcher 18 = .ok (.iload_n 2, 1) := by decide +kernel
theorem dX11_watcher_19 : decode cX11_watcher 19 = .ok (.invokevirtual 120, 3) := by decide +kernel
theorem dX11_watcher_22 : decode cX11_watcher 22 = .ok (.ifCond .eq 16, 3) := by decide +kernel
theorem dX11_watcher_25 : decode cX11_watcher 25 = .ok (.aload_n 0, 1) := by decide +kernel
theorem dX11_watcher_26 : decode cX11_watcher 26 = .ok (.iload 4, 2) := by decide +kernel
theorem dX11_watcher_28 : decode cX11_watcher 28 = .ok (.iload_n 3, 1) := by decide +kernel
theorem dX11_watcher_29 : decode cX11_watcher 29 = .ok (.invokevirtual 123, 3) := by decide +kernel
theorem dX11_watcher_32 : decode cX11_watcher 32 = .ok (.ifCond .eq 6, 3) := by decide +kernel
theorem dX11_watcher_35 : decode cX11_watcher 35 = .ok (.iload 4, 2) := by decide +kernel
theorem dX11_watcher_37 : decode cX11_watcher 37 = .ok (.ireturn, 1) := by decide +kernel
theorem dX11_watcher_38 : decode cX11_watcher 38 = .ok (.iinc 4 1, 3) := by decide +kernel
theorem dX11_watcher_41 : decode cX11_watcher 41 = .ok (.goto (-38), 3) := by decide +kernel
theorem dX11_watcher_44 : decode cX11_watcher 44 = .ok (.iconst (-1), 1) := by decide +kernel
theorem dX11_watcher_45 : decode cX11_watcher 45 = .ok (.ireturn, 1) := by decide +kernel
theorem dX11_become_0 : decode cX11_become 0 = .ok (.sipush 544, 3) := by decide +kernel
theorem dX11_become_3 : decode cX11_become 3 = .ok (.iconst 3, 1) := by decide +kernel
theorem dX11_become_4 : decode cX11_become 4 = .ok (.aload_n 0, 1) := by decide +kernel
theorem dX11_become_5 : decode cX11_become 5 = .ok (.getfield 9, 3) := by decide +kernel
theorem dX11_become_8 : decode cX11_become 8 = .ok (.bipush 7, 2) := by decide +kernel
theorem dX11_become_10 : decode cX11_become 10 = .ok (.iaload, 1) := by decide +kernel
theorem dX11_become_11 : decode cX11_become 11 = .ok (.imul, 1) := by decide +kernel
theorem dX11_become_12 : decode cX11_become 12 = .ok (.iadd, 1) := by decide +kernel
theorem dX11_become_13 : decode cX11_become 13 = .ok (.istore_n 3, 1) := by decide +kernel
theorem dX11_become_14 : decode cX11_become 14 = .ok (.aload_n 0, 1) := by decide +kernel
theorem dX11_become_15 : decode cX11_become 15 = .ok (.getfield 9, 3) := by decide +kernel
theorem dX11_become_18 : decode cX11_become 18 = .ok (.iload_n 3, 1) := by decide +kernel
theorem dX11_become_19 : decode cX11_become 19 = .ok (.aload_n 0, 1) := by decide +kernel
theorem dX11_become_20 : decode cX11_become 20 = .ok (.invokevirtual 126, 3) := by decide +kernel
theorem dX11_become_23 : decode cX11_become 23 = .ok (.iastore, 1) := by decide +kernel
theorem dX11_become_24 : decode cX11_become 24 = .ok (.aload_n 0, 1) := by decide +kernel
theorem dX11_become_25 : decode cX11_become 25 = .ok (.getfield 9, 3) := by decide +kernel
theorem dX11_become_28 : decode cX11_become 28 = .ok (.iload_n 3, 1) := by decide +kernel
theorem dX11_become_29 : decode cX11_become 29 = .ok (.iconst 1, 1) := by decide +kernel
theorem dX11_become_30 : decode cX11_become 30 = .ok (.iadd, 1) := by decide +kernel
theorem dX11_become_31 : decode cX11_become 31 = .ok (.iload_n 1, 1) := by decide +kernel
theorem dX11_become_32 : decode cX11_become 32 = .ok (.iastore, 1) := by decide +kernel
theorem dX11_become_33 : decode cX11_become 33 = .ok (.aload_n 0, 1) := by decide +kernel
theorem dX11_become_34 : decode cX11_become 34 = .ok (.getfield 9, 3) := by decide +kernel
theorem dX11_become_37 : decode cX11_become 37 = .ok (.iload_n 3, 1) := by decide +kernel
theorem dX11_become_38 : decode cX11_become 38 = .ok (.iconst 2, 1) := by decide +kernel
theorem dX11_become_39 : decode cX11_become 39 = .ok (.iadd, 1) := by decide +kernel
theorem dX11_become_40 : decode cX11_become 40 = .ok (.iload_n 2, 1) := by decide +kernel
theorem dX11_become_41 : decode cX11_become 41 = .ok (.iastore, 1) := by decide +kernel
theorem dX11_become_42 : decode cX11_become 42 = .ok (.aload_n 0, 1) := by decide +kernel
theorem dX11_become_43 : decode cX11_become 43 = .ok (.getfield 9, 3) := by decide +kernel
theorem dX11_become_46 : decode cX11_become 46 = .ok (.bipush 7, 2) := by decide +kernel
theorem dX11_become_48 : decode cX11_become 48 = .ok (.dup2, 1) := by decide +kernel
theorem dX11_become_49 : decode cX11_become 49 = .ok (.iaload, 1) := by decide +kernel
theorem dX11_become_50 : decode cX11_become 50 = .ok (.iconst 1, 1) := by decide +kernel
theorem dX11_become_51 : decode cX11_become 51 = .ok (.iadd, 1) := by decide +kernel
theorem dX11_become_52 : decode cX11_become 52 = .ok (.iastore, 1) := by decide +kernel
theorem dX11_become_53 : decode cX11_become 53 = .ok (.aload_n 0, 1) := by decide +kernel
theorem dX11_become_54 : decode cX11_become 54 = .ok (.getfield 9, 3) := by decide +kernel
theorem dX11_become_57 : decode cX11_become 57 = .ok (.iload_n 1, 1) := by decide +kernel
theorem dX11_become_58 : decode cX11_become 58 = .ok (.iconst 3, 1) := by decide +kernel
theorem dX11_become_59 : decode cX11_become 59 = .ok (.invokestatic 87, 3) := by decide +kernel
theorem dX11_become_62 : decode cX11_become 62 = .ok (.iload_n 2, 1) := by decide +kernel
theorem dX11_become_63 : decode cX11_become 63 = .ok (.iastore, 1) := by decide +kernel
theorem dX11_become_64 : decode cX11_become 64 = .ok (.aload_n 0, 1) := by decide +kernel
theorem dX11_become_65 : decode cX11_become 65 = .ok (.getfield 9, 3) := by decide +kernel
theorem dX11_become_68 : decode cX11_become 68 = .ok (.iload_n 1, 1) := by decide +kernel
theorem dX11_become_69 : decode cX11_become 69 = .ok (.bipush 6, 2) := by decide +kernel
theorem dX11_become_71 : decode cX11_become 71 = .ok (.invokestatic 87, 3) := by decide +kernel
theorem dX11_become_74 : decode cX11_become 74 = .ok (.iload_n 2, 1) := by decide +kernel
theorem dX11_become_75 : decode cX11_become 75 = .ok (.iconst 1, 1) := by decide +kernel
theorem dX11_become_76 : decode cX11_become 76 = .ok (.if_icmp .ne 7, 3) := by decide +kernel
theorem dX11_become_79 : decode cX11_become 79 = .ok (.iconst (-1), 1) := by decide +kernel
theorem dX11_become_80 : decode cX11_become 80 = .ok (.goto 7, 3) := by decide +kernel
theorem dX11_become_83 : decode cX11_become 83 = .ok (.aload_n 0, 1) := by decide +kernel
theorem dX11_become_84 : decode cX11_become 84 = .ok (.invokevirtual 126, 3) := by decide +kernel
theorem dX11_become_87 : decode cX11_become 87 = .ok (.iastore, 1) := by decide +kernel
theorem dX11_become_88 : decode cX11_become 88 = .ok (.return_, 1) := by decide +kernel
theorem dX11_dispatch_0 : decode cX11_dispatch 0 = .ok (.aload_n 0, 1) := by decide +kernel
theorem dX11_dispatch_1 : decode cX11_dispatch 1 = .ok (.getfield 9, 3) := by decide +kernel
theorem dX11_dispatch_4 : decode cX11_dispatch 4 = .ok (.iconst 4, 1) := by decide +kernel
theorem dX11_dispatch_5 : decode cX11_dispatch 5 = .ok (.iaload, 1) := by decide +kernel
theorem dX11_dispatch_6 : decode cX11_dispatch 6 = .ok (.istore 4, 2) := by decide +kernel
theorem dX11_dispatch_8 : decode cX11_dispatch 8 = .ok (.aload_n 0, 1) := by decide +kernel
theorem dX11_dispatch_9 : decode cX11_dispatch 9 = .ok (.getfield 9, 3) := by decide +kernel
theorem dX11_dispatch_12 : decode cX11_dispatch 12 = .ok (.iload 4, 2) := by decide +kernel
theorem dX11_dispatch_14 : decode cX11_dispatch 14 = .ok (.iconst 0, 1) := by decide +kernel
theorem dX11_dispatch_15 : decode cX11_dispatch 15 = .ok (.invokestatic 87, 3) := by decide +kernel
theorem dX11_dispatch_18 : decode cX11_dispatch 18 = .ok (.iload_n 1, 1) := by decide +kernel
theorem dX11_dispatch_19 : decode cX11_dispatch 19 = .ok (.iastore, 1) := by decide +kernel
theorem dX11_dispatch_20 : decode cX11_dispatch 20 = .ok (.aload_n 0, 1) := by decide +kernel
theorem dX11_dispatch_21 : decode cX11_dispatch 21 = .ok (.getfield 9, 3) := by decide +kernel
theorem dX11_dispatch_24 : decode cX11_dispatch 24 = .ok (.iload 4, 2) := by decide +kernel
theorem dX11_dispatch_26 : decode cX11_dispatch 26 = .ok (.iconst 1, 1) := by decide +kernel
theorem dX11_dispatch_27 : decode cX11_dispatch 27 = .ok (.invokestatic 87, 3) := by decide +kernel
theorem dX11_dispatch_30 : decode cX11_dispatch 30 = .ok (.iload_n 2, 1) := by decide +kernel
theorem dX11_dispatch_31 : decode cX11_dispatch 31 = .ok (.iastore, 1) := by decide +kernel
theorem dX11_dispatch_32 : decode cX11_dispatch 32 = .ok (.aload_n 0, 1) := by decide +kernel
theorem dX11_dispatch_33 : decode cX11_dispatch 33 = .ok (.getfield 9, 3) := by decide +kernel
theorem dX11_dispatch_36 : decode cX11_dispatch 36 = .ok (.iload 4, 2) := by decide +kernel
theorem dX11_dispatch_38 : decode cX11_dispatch 38 = .ok (.iconst 2, 1) := by decide +kernel
theorem dX11_dispatch_39 : decode cX11_dispatch 39 = .ok (.invokestatic 87, 3) := by decide +kernel
theorem dX11_dispatch_42 : decode cX11_dispatch 42 = .ok (.iload_n 3, 1) := by decide +kernel
theorem dX11_dispatch_43 : decode cX11_dispatch 43 = .ok (.iastore, 1) := by decide +kernel
theorem dX11_dispatch_44 : decode cX11_dispatch 44 = .ok (.aload_n 0, 1) := by decide +kernel
theorem dX11_dispatch_45 : decode cX11_dispatch 45 = .ok (.getfield 9, 3) := by decide +kernel
theorem dX11_dispatch_48 : decode cX11_dispatch 48 = .ok (.iload 4, 2) := by decide +kernel
theorem dX11_dispatch_50 : decode cX11_dispatch 50 = .ok (.iconst 3, 1) := by decide +kernel
theorem dX11_dispatch_51 : decode cX11_dispatch 51 = .ok (.invokestatic 87, 3) := by decide +kernel
theorem dX11_dispatch_54 : decode cX11_dispatch 54 = .ok (.iconst 0, 1) := by decide +kernel
theorem dX11_dispatch_55 : decode cX11_dispatch 55 = .ok (.iastore, 1) := by decide +kernel
theorem dX11_dispatch_56 : decode cX11_dispatch 56 = .ok (.aload_n 0, 1) := by decide +kernel
theorem dX11_dispatch_57 : decode cX11_dispatch 57 = .ok (.getfield 9, 3) := by decide +kernel
theorem dX11_dispatch_60 : decode cX11_dispatch 60 = .ok (.iload 4, 2) := by decide +kernel
theorem dX11_dispatch_62 : decode cX11_dispatch 62 = .ok (.iconst 4, 1) := by decide +kernel
theorem dX11_dispatch_63 : decode cX11_dispatch 63 = .ok (.invokestatic 87, 3) := by decide +kernel
theorem dX11_dispatch_66 : decode cX11_dispatch 66 = .ok (.aload_n 0, 1) := by decide +kernel
theorem dX11_dispatch_67 : decode cX11_dispatch 67 = .ok (.invokevirtual 126, 3) := by decide +kernel
theorem dX11_dispatch_70 : decode cX11_dispatch 70 = .ok (.iastore, 1) := by decide +kernel
theorem dX11_dispatch_71 : decode cX11_dispatch 71 = .ok (.aload_n 0, 1) := by decide +kernel
theorem dX11_dispatch_72 : decode cX11_dispatch 72 = .ok (.getfield 9, 3) := by decide +kernel
theorem dX11_dispatch_75 : decode cX11_dispatch 75 = .ok (.iload 4, 2) := by decide +kernel
theorem dX11_dispatch_77 : decode cX11_dispatch 77 = .ok (.iconst 5, 1) := by decide +kernel
theorem dX11_dispatch_78 : decode cX11_dispatch 78 = .ok (.invokestatic 87, 3) := by decide +kernel
theorem dX11_dispatch_81 : decode cX11_dispatch 81 = .ok (.iconst (-1), 1) := by decide +kernel
theorem dX11_dispatch_82 : decode cX11_dispatch 82 = .ok (.iastore, 1) := by decide +kernel
theorem dX11_dispatch_83 : decode cX11_dispatch 83 = .ok (.aload_n 0, 1) := by decide +kernel
theorem dX11_dispatch_84 : decode cX11_dispatch 84 = .ok (.getfield 9, 3) := by decide +kernel
theorem dX11_dispatch_87 : decode cX11_dispatch 87 = .ok (.iload 4, 2) := by decide +kernel
theorem dX11_dispatch_89 : decode cX11_dispatch 89 = .ok (.bipush 6, 2) := by decide +kernel
theorem dX11_dispatch_91 : decode cX11_dispatch 91 = .ok (.invokestatic 87, 3) := by decide +kernel
theorem dX11_dispatch_94 : decode cX11_dispatch 94 = .ok (.iconst (-1), 1) := by decide +kernel
theorem dX11_dispatch_95 : decode cX11_dispatch 95 = .ok (.iastore, 1) := by decide +kernel
theorem dX11_dispatch_96 : decode cX11_dispatch 96 = .ok (.aload_n 0, 1) := by decide +kernel
theorem dX11_dispatch_97 : decode cX11_dispatch 97 = .ok (.getfield 9, 3) := by decide +kernel
theorem dX11_dispatch_100 : decode cX11_dispatch 100 = .ok (.iload 4, 2) := by decide +kernel
theorem dX11_dispatch_102 : decode cX11_dispatch 102 = .ok (.bipush 7, 2) := by decide +kernel
theorem dX11_dispatch_104 : decode cX11_dispatch 104 = .ok (.invokestatic 87, 3) := by decide +kernel
theorem dX11_dispatch_107 : decode cX11_dispatch 107 = .ok (.aload_n 0, 1) := by decide +kernel
theorem dX11_dispatch_108 : decode cX11_dispatch 108 = .ok (.getfield 9, 3) := by decide +kernel
theorem dX11_dispatch_111 : decode cX11_dispatch 111 = .ok (.bipush 10, 2) := by decide +kernel
theorem dX11_dispatch_113 : decode cX11_dispatch 113 = .ok (.iaload, 1) := by decide +kernel
theorem dX11_dispatch_114 : decode cX11_dispatch 114 = .ok (.iastore, 1) := by decide +kernel
theorem dX11_dispatch_115 : decode cX11_dispatch 115 = .ok (.aload_n 0, 1) := by decide +kernel
theorem dX11_dispatch_116 : decode cX11_dispatch 116 = .ok (.getfield 9, 3) := by decide +kernel
theorem dX11_dispatch_119 : decode cX11_dispatch 119 = .ok (.iload 4, 2) := by decide +kernel
theorem dX11_dispatch_121 : decode cX11_dispatch 121 = .ok (.bipush 8, 2) := by decide +kernel
theorem dX11_dispatch_123 : decode cX11_dispatch 123 = .ok (.invokestatic 87, 3) := by decide +kernel
theorem dX11_dispatch_126 : decode cX11_dispatch 126 = .ok (.aload_n 0, 1) := by decide +kernel
theorem dX11_dispatch_127 : decode cX11_dispatch 127 = .ok (.getfield 9, 3) := by decide +kernel
theorem dX11_dispatch_130 : decode cX11_dispatch 130 = .ok (.bipush 11, 2) := by decide +kernel
theorem dX11_dispatch_132 : decode cX11_dispatch 132 = .ok (.iaload, 1) := by decide +kernel
theorem dX11_dispatch_133 : decode cX11_dispatch 133 = .ok (.iastore, 1) := by decide +kernel
theorem dX11_dispatch_134 : decode cX11_dispatch 134 = .ok (.aload_n 0, 1) := by decide +kernel
theorem dX11_dispatch_135 : decode cX11_dispatch 135 = .ok (.getfield 9, 3) := by decide +kernel
theorem dX11_dispatch_138 : decode cX11_dispatch 138 = .ok (.iload 4, 2) := by decide +kernel
theorem dX11_dispatch_140 : decode cX11_dispatch 140 = .ok (.bipush 9, 2) := by decide +kernel
theorem dX11_dispatch_142 : decode cX11_dispatch 142 = .ok (.invokestatic 87, 3) := by decide +kernel
theorem dX11_dispatch_145 : decode cX11_dispatch 145 = .ok (.iconst 0, 1) := by decide +kernel
theorem dX11_dispatch_146 : decode cX11_dispatch 146 = .ok (.iastore, 1) := by decide +kernel
theorem dX11_dispatch_147 : decode cX11_dispatch 147 = .ok (.aload_n 0, 1) := by decide +kernel
theorem dX11_dispatch_148 : decode cX11_dispatch 148 = .ok (.getfield 9, 3) := by decide +kernel
theorem dX11_dispatch_151 : decode cX11_dispatch 151 = .ok (.iconst 4, 1) := by decide +kernel
theorem dX11_dispatch_152 : decode cX11_dispatch 152 = .ok (.dup2, 1) := by decide +kernel
theorem dX11_dispatch_153 : decode cX11_dispatch 153 = .ok (.iaload, 1) := by decide +kernel
theorem dX11_dispatch_154 : decode cX11_dispatch 154 = .ok (.iconst 1, 1) := by decide +kernel
theorem dX11_dispatch_155 : decode cX11_dispatch 155 = .ok (.iadd, 1) := by decide +kernel
theorem dX11_dispatch_156 : decode cX11_dispatch 156 = .ok (.iastore, 1) := by decide +kernel
theorem dX11_dispatch_157 : decode cX11_dispatch 157 = .ok (.return_, 1) := by decide +kernel
theorem dX11_obeyedBy_0 : decode cX11_obeyedBy 0 = .ok (.iconst 0, 1) := by decide +kernel
theorem dX11_obeyedBy_1 : decode cX11_obeyedBy 1 = .ok (.istore_n 2, 1) := by decide +kernel
theorem dX11_obeyedBy_2 : decode cX11_obeyedBy 2 = .ok (.iload_n 2, 1) := by decide +kernel
theorem dX11_obeyedBy_3 : decode cX11_obeyedBy 3 = .ok (.aload_n 0, 1) := by decide +kernel
theorem dX11_obeyedBy_4 : decode cX11_obeyedBy 4 = .ok (.getfield 9, 3) := by decide +kernel
theorem dX11_obeyedBy_7 : decode cX11_obeyedBy 7 = .ok (.iconst 4, 1) := by decide +kernel
theorem dX11_obeyedBy_8 : decode cX11_obeyedBy 8 = .ok (.iaload, 1) := by decide +kernel
theorem dX11_obeyedBy_9 : decode cX11_obeyedBy 9 = .ok (.if_icmp .ge 31, 3) := by decide +kernel
theorem dX11_obeyedBy_12 : decode cX11_obeyedBy 12 = .ok (.aload_n 0, 1) := by decide +kernel
theorem dX11_obeyedBy_13 : decode cX11_obeyedBy 13 = .ok (.iload_n 2, 1) := by decide +kernel
theorem dX11_obeyedBy_14 : decode cX11_obeyedBy 14 = .ok (.iconst 0, 1) := by decide +kernel
theorem dX11_obeyedBy_15 : decode cX11_obeyedBy 15 = .ok (.invokevirtual 130, 3) := by decide +kernel
theorem dX11_obeyedBy_18 : decode cX11_obeyedBy 18 = .ok (.iload_n 1, 1) := by decide +kernel
theorem dX11_obeyedBy_19 : decode cX11_obeyedBy 19 = .ok (.if_icmp .ne 15, 3) := by decide +kernel
theorem dX11_obeyedBy_22 : decode cX11_obeyedBy 22 = .ok (.aload_n 0, 1) := by decide +kernel
theorem dX11_obeyedBy_23 : decode cX11_obeyedBy 23 = .ok (.iload_n 2, 1) := by decide +kernel
theorem dX11_obeyedBy_24 : decode cX11_obeyedBy 24 = .ok (.iconst 3, 1) := by decide +kernel
theorem dX11_obeyedBy_25 : decode cX11_obeyedBy 25 = .ok (.invokevirtual 130, 3) := by decide +kernel
theorem dX11_obeyedBy_28 : decode cX11_obeyedBy 28 = .ok (.iconst 1, 1) := by decide +kernel
theorem dX11_obeyedBy_29 : decode cX11_obeyedBy 29 = .ok (.if_icmp .ne 5, 3) := by decide +kernel
theorem dX11_obeyedBy_32 : decode cX11_obeyedBy 32 = .ok (.iload_n 2, 1) := by decide +kernel
theorem dX11_obeyedBy_33 : decode cX11_obeyedBy 33 = .ok (.ireturn, 1) := by decide +kernel
theorem dX11_obeyedBy_34 : decode cX11_obeyedBy 34 = .ok (.iinc 2 1, 3) := by decide +kernel
theorem dX11_obeyedBy_37 : decode cX11_obeyedBy 37 = .ok (.goto (-35), 3) := by decide +kernel
theorem dX11_obeyedBy_40 : decode cX11_obeyedBy 40 = .ok (.iconst (-1), 1) := by decide +kernel
theorem dX11_obeyedBy_41 : decode cX11_obeyedBy 41 = .ok (.ireturn, 1) := by decide +kernel
theorem dX11_arrive_0 : decode cX11_arrive 0 = .ok (.aload_n 0, 1) := by decide +kernel
theorem dX11_arrive_1 : decode cX11_arrive 1 = .ok (.iload_n 1, 1) := by decide +kernel
theorem dX11_arrive_2 : decode cX11_arrive 2 = .ok (.iconst 0, 1) := by decide +kernel
theorem dX11_arrive_3 : decode cX11_arrive 3 = .ok (.invokevirtual 130, 3) := by decide +kernel
theorem dX11_arrive_6 : decode cX11_arrive 6 = .ok (.istore_n 2, 1) := by decide +kernel
theorem dX11_arrive_7 : decode cX11_arrive 7 = .ok (.aload_n 0, 1) := by decide +kernel
theorem dX11_arrive_8 : decode cX11_arrive 8 = .ok (.getfield 9, 3) := by decide +kernel
theorem dX11_arrive_11 : decode cX11_arrive 11 = .ok (.iload_n 1, 1) := by decide +kernel
theorem dX11_arrive_12 : decode cX11_arrive 12 = .ok (.iconst 5, 1) := by decide +kernel
theorem dX11_arrive_13 : decode cX11_arrive 13 = .ok (.invokestatic 87, 3) := by decide +kernel
theorem dX11_arrive_16 : decode cX11_arrive 16 = .ok (.aload_n 0, 1) := by decide +kernel
theorem dX11_arrive_17 : decode cX11_arrive 17 = .ok (.invokevirtual 126, 3) := by decide +kernel
theorem dX11_arrive_20 : decode cX11_arrive 20 = .ok (.iastore, 1) := by decide +kernel
theorem dX11_arrive_21 : decode cX11_arrive 21 = .ok (.aload_n 0, 1) := by decide +kernel
theorem dX11_arrive_22 : decode cX11_arrive 22 = .ok (.iload_n 2, 1) := by decide +kernel
theorem dX11_arrive_23 : decode cX11_arrive 23 = .ok (.iconst 3, 1) := by decide +kernel
theorem dX11_arrive_24 : decode cX11_arrive 24 = .ok (.invokevirtual 133, 3) := by decide +kernel
theorem dX11_arrive_27 : decode cX11_arrive 27 = .ok (.iload_n 1, 1) := by decide +kernel
theorem dX11_arrive_28 : decode cX11_arrive 28 = .ok (.if_icmp .le 10, 3) := by decide +kernel
theorem dX11_arrive_31 : decode cX11_arrive 31 = .ok (.aload_n 0, 1) := by decide +kernel
theorem dX11_arrive_32 : decode cX11_arrive 32 = .ok (.iload_n 1, 1) := by decide +kernel
theorem dX11_arrive_33 : decode cX11_arrive 33 = .ok (.iconst 3, 1) := by decide +kernel
theorem dX11_arrive_34 : decode cX11_arrive 34 = .ok (.invokevirtual 136, 3) := by decide +kernel
theorem dX11_arrive_37 : decode cX11_arrive 37 = .ok (.return_, 1) := by decide +kernel
theorem dX11_arrive_38 : decode cX11_arrive 38 = .ok (.aload_n 0, 1) := by decide +kernel
theorem dX11_arrive_39 : decode cX11_arrive 39 = .ok (.iload_n 2, 1) := by decide +kernel
theorem dX11_arrive_40 : decode cX11_arrive 40 = .ok (.invokevirtual 140, 3) := by decide +kernel
theorem dX11_arrive_43 : decode cX11_arrive 43 = .ok (.istore_n 3, 1) := by decide +kernel
theorem dX11_arrive_44 : decode cX11_arrive 44 = .ok (.iload_n 3, 1) := by decide +kernel
theorem dX11_arrive_45 : decode cX11_arrive 45 = .ok (.iconst (-1), 1) := by decide +kernel
theorem dX11_arrive_46 : decode cX11_arrive 46 = .ok (.if_icmp .eq 10, 3) := by decide +kernel
theorem dX11_arrive_49 : decode cX11_arrive 49 = .ok (.aload_n 0, 1) := by decide +kernel
theorem dX11_arrive_50 : decode cX11_arrive 50 = .ok (.iload_n 3, 1) := by decide +kernel
theorem dX11_arrive_51 : decode cX11_arrive 51 = .ok (.bipush 6, 2) := by decide +kernel
theorem dX11_arrive_53 : decode cX11_arrive 53 = .ok (.invokevirtual 136, 3) := by decide +kernel
theorem dX11_arrive_56 : decode cX11_arrive 56 = .ok (.aload_n 0, 1) := by decide +kernel
theorem dX11_arrive_57 : decode cX11_arrive 57 = .ok (.iload_n 1, 1) := by decide +kernel
theorem dX11_arrive_58 : decode cX11_arrive 58 = .ok (.iconst 1, 1) := by decide +kernel
theorem dX11_arrive_59 : decode cX11_arrive 59 = .ok (.invokevirtual 136, 3) := by decide +kernel
theorem dX11_arrive_62 : decode cX11_arrive 62 = .ok (.aload_n 0, 1) := by decide +kernel
theorem dX11_arrive_63 : decode cX11_arrive 63 = .ok (.getfield 9, 3) := by decide +kernel
theorem dX11_arrive_66 : decode cX11_arrive 66 = .ok (.iload_n 2, 1) := by decide +kernel
theorem dX11_arrive_67 : decode cX11_arrive 67 = .ok (.iconst 3, 1) := by decide +kernel
theorem dX11_arrive_68 : decode cX11_arrive 68 = .ok (.invokestatic 80, 3) := by decide +kernel
theorem dX11_arrive_71 : decode cX11_arrive 71 = .ok (.iload_n 1, 1) := by decide +kernel
theorem dX11_arrive_72 : decode cX11_arrive 72 = .ok (.iastore, 1) := by decide +kernel
theorem dX11_arrive_73 : decode cX11_arrive 73 = .ok (.return_, 1) := by decide +kernel
theorem dX11_isThere_0 : decode cX11_isThere 0 = .ok (.aload_n 0, 1) := by decide +kernel
theorem dX11_isThere_1 : decode cX11_isThere 1 = .ok (.iload_n 1, 1) := by decide +kernel
theorem dX11_isThere_2 : decode cX11_isThere 2 = .ok (.iconst 0, 1) := by decide +kernel
theorem dX11_isThere_3 : decode cX11_isThere 3 = .ok (.invokevirtual 130, 3) := by decide +kernel
theorem dX11_isThere_6 : decode cX11_isThere 6 = .ok (.istore_n 2, 1) := by decide +kernel
theorem dX11_isThere_7 : decode cX11_isThere 7 = .ok (.aload_n 0, 1) := by decide +kernel
theorem dX11_isThere_8 : decode cX11_isThere 8 = .ok (.iload_n 1, 1) := by decide +kernel
theorem dX11_isThere_9 : decode cX11_isThere 9 = .ok (.bipush 7, 2) := by decide +kernel
theorem dX11_isThere_11 : decode cX11_isThere 11 = .ok (.invokevirtual 130, 3) := by decide +kernel
theorem dX11_isThere_14 : decode cX11_isThere 14 = .ok (.aload_n 0, 1) := by decide +kernel
theorem dX11_isThere_15 : decode cX11_isThere 15 = .ok (.iload_n 2, 1) := by decide +kernel
theorem dX11_isThere_16 : decode cX11_isThere 16 = .ok (.iconst 0, 1) := by decide +kernel
theorem dX11_isThere_17 : decode cX11_isThere 17 = .ok (.invokevirtual 133, 3) := by decide +kernel
theorem dX11_isThere_20 : decode cX11_isThere 20 = .ok (.if_icmp .ne 23, 3) := by decide +kernel
theorem dX11_isThere_23 : decode cX11_isThere 23 = .ok (.aload_n 0, 1) := by decide +kernel
theorem dX11_isThere_24 : decode cX11_isThere 24 = .ok (.iload_n 1, 1) := by decide +kernel
theorem dX11_isThere_25 : decode cX11_isThere 25 = .ok (.bipush 8, 2) := by decide +kernel
theorem dX11_isThere_27 : decode cX11_isThere 27 = .ok (.invokevirtual 130, 3) := by decide +kernel
theorem dX11_isThere_30 : decode cX11_isThere 30 = .ok (.aload_n 0, 1) := by decide +kernel
theorem dX11_isThere_31 : decode cX11_isThere 31 = .ok (.iload_n 2, 1) := by decide +kernel
theorem dX11_isThere_32 : decode cX11_isThere 32 = .ok (.iconst 1, 1) := by decide +kernel
theorem dX11_isThere_33 : decode cX11_isThere 33 = .ok (.invokevirtual 133, 3) := by decide +kernel
theorem dX11_isThere_36 : decode cX11_isThere 36 = .ok (.if_icmp .ne 7, 3) := by decide +kernel
theorem dX11_isThere_39 : decode cX11_isThere 39 = .ok (.iconst 1, 1) := by decide +kernel
theorem dX11_isThere_40 : decode cX11_isThere 40 = .ok (.goto 4, 3) := by decide +kernel
theorem dX11_isThere_43 : decode cX11_isThere 43 = .ok (.iconst 0, 1) := by decide +kernel
theorem dX11_isThere_44 : decode cX11_isThere 44 = .ok (.ireturn, 1) := by decide +kernel
theorem dX11_ride_0 : decode cX11_ride 0 = .ok (.aload_n 0, 1) := by decide +kernel
theorem dX11_ride_1 : decode cX11_ride 1 = .ok (.aload_n 0, 1) := by decide +kernel
theorem dX11_ride_2 : decode cX11_ride 2 = .ok (.iload_n 1, 1) := by decide +kernel
theorem dX11_ride_3 : decode cX11_ride 3 = .ok (.bipush 7, 2) := by decide +kernel
theorem dX11_ride_5 : decode cX11_ride 5 = .ok (.invokevirtual 130, 3) := by decide +kernel
theorem dX11_ride_8 : decode cX11_ride 8 = .ok (.aload_n 0, 1) := by decide +kernel
theorem dX11_ride_9 : decode cX11_ride 9 = .ok (.iload_n 1, 1) := by decide +kernel
theorem dX11_ride_10 : decode cX11_ride 10 = .ok (.bipush 8, 2) := by decide +kernel
theorem dX11_ride_12 : decode cX11_ride 12 = .ok (.invokevirtual 130, 3) := by decide +kernel
theorem dX11_ride_15 : decode cX11_ride 15 = .ok (.invokevirtual 143, 3) := by decide +kernel
theorem dX11_ride_18 : decode cX11_ride 18 = .ok (.istore_n 2, 1) := by decide +kernel
theorem dX11_ride_19 : decode cX11_ride 19 = .ok (.iload_n 2, 1) := by decide +kernel
theorem dX11_ride_20 : decode cX11_ride 20 = .ok (.iconst (-1), 1) := by decide +kernel
theorem dX11_ride_21 : decode cX11_ride 21 = .ok (.if_icmp .ne 5, 3) := by decide +kernel
theorem dX11_ride_24 : decode cX11_ride 24 = .ok (.iconst 0, 1) := by decide +kernel
theorem dX11_ride_25 : decode cX11_ride 25 = .ok (.ireturn, 1) := by decide +kernel
theorem dX11_ride_26 : decode cX11_ride 26 = .ok (.aload_n 0, 1) := by decide +kernel
theorem dX11_ride_27 : decode cX11_ride 27 = .ok (.getfield 9, 3) := by decide +kernel
theorem dX11_ride_30 : decode cX11_ride 30 = .ok (.iload_n 1, 1) := by decide +kernel
theorem dX11_ride_31 : decode cX11_ride 31 = .ok (.bipush 7, 2) := by decide +kernel
theorem dX11_ride_33 : decode cX11_ride 33 = .ok (.invokestatic 87, 3) := by decide +kernel
theorem dX11_ride_36 : decode cX11_ride 36 = .ok (.dup2, 1) := by decide +kernel
theorem dX11_ride_37 : decode cX11_ride 37 = .ok (.iaload, 1) := by decide +kernel
theorem dX11_ride_38 : decode cX11_ride 38 = .ok (.iload_n 2, 1) := by decide +kernel
theorem dX11_ride_39 : decode cX11_ride 39 = .ok (.iconst 1, 1) := by decide +kernel
theorem dX11_ride_40 : decode cX11_ride 40 = .ok (.invokestatic 107, 3) := by decide +kernel
theorem dX11_ride_43 : decode cX11_ride 43 = .ok (.iadd, 1) := by decide +kernel
theorem dX11_ride_44 : decode cX11_ride 44 = .ok (.iastore, 1) := by decide +kernel
theorem dX11_ride_45 : decode cX11_ride 45 = .ok (.aload_n 0, 1) := by decide +kernel
theorem dX11_ride_46 : decode cX11_ride 46 = .ok (.getfield 9, 3) := by decide +kernel
theorem dX11_ride_49 : decode cX11_ride 49 = .ok (.iload_n 1, 1) := by decide +kernel
theorem dX11_ride_50 : decode cX11_ride 50 = .ok (.bipush 8, 2) := by decide +kernel
theorem dX11_ride_52 : decode cX11_ride 52 = .ok (.invokestatic 87, 3) := by decide +kernel
theorem dX11_ride_55 : decode cX11_ride 55 = .ok (.dup2, 1) := by decide +kernel
theorem dX11_ride_56 : decode cX11_ride 56 = .ok (.iaload, 1) := by decide +kernel
theorem dX11_ride_57 : decode cX11_ride 57 = .ok (.iload_n 2, 1) := by decide +kernel
theorem dX11_ride_58 : decode cX11_ride 58 = .ok (.iconst 0, 1) := by decide +kernel
theorem dX11_ride_59 : decode cX11_ride 59 = .ok (.invokestatic 107, 3) := by decide +kernel
theorem dX11_ride_62 : decode cX11_ride 62 = .ok (.iadd, 1) := by decide +kernel
theorem dX11_ride_63 : decode cX11_ride 63 = .ok (.iastore, 1) := by decide +kernel
theorem dX11_ride_64 : decode cX11_ride 64 = .ok (.aload_n 0, 1) := by decide +kernel
theorem dX11_ride_65 : decode cX11_ride 65 = .ok (.getfield 9, 3) := by decide +kernel
theorem dX11_ride_68 : decode cX11_ride 68 = .ok (.iload_n 1, 1) := by decide +kernel
theorem dX11_ride_69 : decode cX11_ride 69 = .ok (.bipush 9, 2) := by decide +kernel
theorem dX11_ride_71 : decode cX11_ride 71 = .ok (.invokestatic 87, 3) := by decide +kernel
theorem dX11_ride_74 : decode cX11_ride 74 = .ok (.dup2, 1) := by decide +kernel
theorem dX11_ride_75 : decode cX11_ride 75 = .ok (.iaload, 1) := by decide +kernel
theorem dX11_ride_76 : decode cX11_ride 76 = .ok (.iconst 1, 1) := by decide +kernel
theorem dX11_ride_77 : decode cX11_ride 77 = .ok (.iadd, 1) := by decide +kernel
theorem dX11_ride_78 : decode cX11_ride 78 = .ok (.iastore, 1) := by decide +kernel
theorem dX11_ride_79 : decode cX11_ride 79 = .ok (.aload_n 0, 1) := by decide +kernel
theorem dX11_ride_80 : decode cX11_ride 80 = .ok (.aload_n 0, 1) := by decide +kernel
theorem dX11_ride_81 : decode cX11_ride 81 = .ok (.iload_n 1, 1) := by decide +kernel
theorem dX11_ride_82 : decode cX11_ride 82 = .ok (.bipush 7, 2) := by decide +kernel
theorem dX11_ride_84 : decode cX11_ride 84 = .ok (.invokevirtual 130, 3) := by decide +kernel
theorem dX11_ride_87 : decode cX11_ride 87 = .ok (.aload_n 0, 1) := by decide +kernel
theorem dX11_ride_88 : decode cX11_ride 88 = .ok (.iload_n 1, 1) := by decide +kernel
theorem dX11_ride_89 : decode cX11_ride 89 = .ok (.bipush 8, 2) := by decide +kernel
theorem dX11_ride_91 : decode cX11_ride 91 = .ok (.invokevirtual 130, 3) := by decide +kernel
theorem dX11_ride_94 : decode cX11_ride 94 = .ok (.aload_n 0, 1) := by decide +kernel
theorem dX11_ride_95 : decode cX11_ride 95 = .ok (.invokevirtual 126, 3) := by decide +kernel
theorem dX11_ride_98 : decode cX11_ride 98 = .ok (.invokevirtual 146, 3) := by decide +kernel
theorem dX11_ride_101 : decode cX11_ride 101 = .ok (.istore_n 3, 1) := by decide +kernel
theorem dX11_ride_102 : decode cX11_ride 102 = .ok (.iload_n 3, 1) := by decide +kernel
theorem dX11_ride_103 : decode cX11_ride 103 = .ok (.iconst (-1), 1) := by decide +kernel
theorem dX11_ride_104 : decode cX11_ride 104 = .ok (.if_icmp .eq 27, 3) := by decide +kernel
theorem dX11_ride_107 : decode cX11_ride 107 = .ok (.aload_n 0, 1) := by decide +kernel
theorem dX11_ride_108 : decode cX11_ride 108 = .ok (.getfield 9, 3) := by decide +kernel
theorem dX11_ride_111 : decode cX11_ride 111 = .ok (.iload_n 3, 1) := by decide +kernel
theorem dX11_ride_112 : decode cX11_ride 112 = .ok (.bipush 6, 2) := by decide +kernel
theorem dX11_ride_114 : decode cX11_ride 114 = .ok (.invokestatic 84, 3) := by decide +kernel
theorem dX11_ride_117 : decode cX11_ride 117 = .ok (.dup2, 1) := by decide +kernel
theorem dX11_ride_118 : decode cX11_ride 118 = .ok (.iaload, 1) := by decide +kernel
theorem dX11_ride_119 : decode cX11_ride 119 = .ok (.iconst 1, 1) := by decide +kernel
theorem dX11_ride_120 : decode cX11_ride 120 = .ok (.iadd, 1) := by decide +kernel
theorem dX11_ride_121 : decode cX11_ride 121 = .ok (.iastore, 1) := by decide +kernel
theorem dX11_ride_122 : decode cX11_ride 122 = .ok (.aload_n 0, 1) := by decide +kernel
theorem dX11_ride_123 : decode cX11_ride 123 = .ok (.iload_n 1, 1) := by decide +kernel
theorem dX11_ride_124 : decode cX11_ride 124 = .ok (.iconst 5, 1) := by decide +kernel
theorem dX11_ride_125 : decode cX11_ride 125 = .ok (.invokevirtual 136, 3) := by decide +kernel
theorem dX11_ride_128 : decode cX11_ride 128 = .ok (.goto 16, 3) := by decide +kernel
theorem dX11_ride_131 : decode cX11_ride 131 = .ok (.aload_n 0, 1) := by decide +kernel
theorem dX11_ride_132 : decode cX11_ride 132 = .ok (.iload_n 1, 1) := by decide +kernel
theorem dX11_ride_133 : decode cX11_ride 133 = .ok (.invokevirtual 150, 3) := by decide +kernel
theorem dX11_ride_136 : decode cX11_ride 136 = .ok (.ifCond .eq 8, 3) := by decide +kernel
theorem dX11_ride_139 : decode cX11_ride 139 = .ok (.aload_n 0, 1) := by decide +kernel
theorem dX11_ride_140 : decode cX11_ride 140 = .ok (.iload_n 1, 1) := by decide +kernel
theorem dX11_ride_141 : decode cX11_ride 141 = .ok (.invokevirtual 154, 3) := by decide +kernel
theorem dX11_ride_144 : decode cX11_ride 144 = .ok (.aload_n 0, 1) := by decide +kernel
theorem dX11_ride_145 : decode cX11_ride 145 = .ok (.iload_n 1, 1) := by decide +kernel
theorem dX11_ride_146 : decode cX11_ride 146 = .ok (.iconst 3, 1) := by decide +kernel
theorem dX11_ride_147 : decode cX11_ride 147 = .ok (.invokevirtual 130, 3) := by decide +kernel
theorem dX11_ride_150 : decode cX11_ride 150 = .ok (.ifCond .ne 7, 3) := by decide +kernel
theorem dX11_ride_153 : decode cX11_ride 153 = .ok (.iconst 1, 1) := by decide +kernel
theorem dX11_ride_154 : decode cX11_ride 154 = .ok (.goto 4, 3) := by decide +kernel
theorem dX11_ride_157 : decode cX11_ride 157 = .ok (.iconst 0, 1) := by decide +kernel
theorem dX11_ride_158 : decode cX11_ride 158 = .ok (.ireturn, 1) := by decide +kernel
theorem dX11_carry_0 : decode cX11_carry 0 = .ok (.aload_n 0, 1) := by decide +kernel
theorem dX11_carry_1 : decode cX11_carry 1 = .ok (.iload_n 1, 1) := by decide +kernel
theorem dX11_carry_2 : decode cX11_carry 2 = .ok (.invokevirtual 150, 3) := by decide +kernel
theorem dX11_carry_5 : decode cX11_carry 5 = .ok (.ifCond .eq 9, 3) := by decide +kernel
theorem dX11_carry_8 : decode cX11_carry 8 = .ok (.aload_n 0, 1) := by decide +kernel
theorem dX11_carry_9 : decode cX11_carry 9 = .ok (.iload_n 1, 1) := by decide +kernel
theorem dX11_carry_10 : decode cX11_carry 10 = .ok (.invokevirtual 154, 3) := by decide +kernel
theorem dX11_carry_13 : decode cX11_carry 13 = .ok (.return_, 1) := by decide +kernel
theorem dX11_carry_14 : decode cX11_carry 14 = .ok (.aload_n 0, 1) := by decide +kernel
theorem dX11_carry_15 : decode cX11_carry 15 = .ok (.iload_n 1, 1) := by decide +kernel
theorem dX11_carry_16 : decode cX11_carry 16 = .ok (.iconst 0, 1) := by decide +kernel
theorem dX11_carry_17 : decode cX11_carry 17 = .ok (.invokevirtual 130, 3) := by decide +kernel
theorem dX11_carry_20 : decode cX11_carry 20 = .ok (.istore_n 2, 1) := by decide +kernel
theorem dX11_carry_21 : decode cX11_carry 21 = .ok (.aload_n 0, 1) := by decide +kernel
theorem dX11_carry_22 : decode cX11_carry 22 = .ok (.aload_n 0, 1) := by decide +kernel
theorem dX11_carry_23 : decode cX11_carry 23 = .ok (.iload_n 2, 1) := by decide +kernel
theorem dX11_carry_24 : decode cX11_carry 24 = .ok (.iconst 0, 1) := by decide +kernel
theorem dX11_carry_25 : decode cX11_carry 25 = .ok (.invokevirtual 133, 3) := by decide +kernel
theorem dX11_carry_28 : decode cX11_carry 28 = .ok (.aload_n 0, 1) := by decide +kernel
theorem dX11_carry_29 : decode cX11_carry 29 = .ok (.iload_n 2, 1) := by decide +kernel
theorem dX11_carry_30 : decode cX11_carry 30 = .ok (.iconst 1, 1) := by decide +kernel
theorem dX11_carry_31 : decode cX11_carry 31 = .ok (.invokevirtual 133, 3) := by decide +kernel
theorem dX11_carry_34 : decode cX11_carry 34 = .ok (.invokevirtual 158, 3) := by decide +kernel
theorem dX11_carry_37 : decode cX11_carry 37 = .ok (.aload_n 0, 1) := by decide +kernel
theorem dX11_carry_38 : decode cX11_carry 38 = .ok (.iload_n 1, 1) := by decide +kernel
theorem dX11_carry_39 : decode cX11_carry 39 = .ok (.invokevirtual 161, 3) := by decide +kernel
theorem dX11_carry_42 : decode cX11_carry 42 = .ok (.ifCond .eq 9, 3) := by decide +kernel
theorem dX11_carry_45 : decode cX11_carry 45 = .ok (.aload_n 0, 1) := by decide +kernel
theorem dX11_carry_46 : decode cX11_carry 46 = .ok (.iload_n 1, 1) := by decide +kernel
theorem dX11_carry_47 : decode cX11_carry 47 = .ok (.invokevirtual 161, 3) := by decide +kernel
theorem dX11_carry_50 : decode cX11_carry 50 = .ok (.pop, 1) := by decide +kernel
theorem dX11_carry_51 : decode cX11_carry 51 = .ok (.return_, 1) := by decide +kernel
theorem dX11_sendPlanned_0 : decode cX11_sendPlanned 0 = .ok (.iconst 0, 1) := by decide +kernel
theorem dX11_sendPlanned_1 : decode cX11_sendPlanned 1 = .ok (.istore_n 1, 1) := by decide +kernel
theorem dX11_sendPlanned_2 : decode cX11_sendPlanned 2 = .ok (.iload_n 1, 1) := by decide +kernel
theorem dX11_sendPlanned_3 : decode cX11_sendPlanned 3 = .ok (.aload_n 0, 1) := by decide +kernel
theorem dX11_sendPlanned_4 : decode cX11_sendPlanned 4 = .ok (.getfield 9, 3) := by decide +kernel
theorem dX11_sendPlanned_7 : decode cX11_sendPlanned 7 = .ok (.bipush 8, 2) := by decide +kernel
theorem dX11_sendPlanned_9 : decode cX11_sendPlanned 9 = .ok (.iaload, 1) := by decide +kernel
theorem dX11_sendPlanned_10 : decode cX11_sendPlanned 10 = .ok (.if_icmp .ge 71, 3) := by decide +kernel
theorem dX11_sendPlanned_13 : decode cX11_sendPlanned 13 = .ok (.aload_n 0, 1) := by decide +kernel
theorem dX11_sendPlanned_14 : decode cX11_sendPlanned 14 = .ok (.getfield 9, 3) := by decide +kernel
theorem dX11_sendPlanned_17 : decode cX11_sendPlanned 17 = .ok (.iload_n 1, 1) := by decide +kernel
theorem dX11_sendPlanned_18 : decode cX11_sendPlanned 18 = .ok (.iconst 3, 1) := by decide +kernel
theorem dX11_sendPlanned_19 : decode cX11_sendPlanned 19 = .ok (.invokestatic 164, 3) := by decide +kernel
theorem dX11_sendPlanned_22 : decode cX11_sendPlanned 22 = .ok (.iaload, 1) := by decide +kernel
theorem dX11_sendPlanned_23 : decode cX11_sendPlanned 23 = .ok (.aload_n 0, 1) := by decide +kernel
theorem dX11_sendPlanned_24 : decode cX11_sendPlanned 24 = .ok (.invokevirtual 126, 3) := by decide +kernel
theorem dX11_sendPlanned_27 : decode cX11_sendPlanned 27 = .ok (.if_icmp .ne 48, 3) := by decide +kernel
theorem dX11_sendPlanned_30 : decode cX11_sendPlanned 30 = .ok (.aload_n 0, 1) := by decide +kernel
theorem dX11_sendPlanned_31 : decode cX11_sendPlanned 31 = .ok (.getfield 9, 3) := by decide +kernel
theorem dX11_sendPlanned_34 : decode cX11_sendPlanned 34 = .ok (.iconst 4, 1) := by decide +kernel
theorem dX11_sendPlanned_35 : decode cX11_sendPlanned 35 = .ok (.iaload, 1) := by decide +kernel
theorem dX11_sendPlanned_36 : decode cX11_sendPlanned 36 = .ok (.bipush 40, 2) := by decide +kernel
theorem dX11_sendPlanned_38 : decode cX11_sendPlanned 38 = .ok (.if_icmp .ge 37, 3) := by decide +kernel
theorem dX11_sendPlanned_41 : decode cX11_sendPlanned 41 = .ok (.aload_n 0, 1) := by decide +kernel
theorem dX11_sendPlanned_42 : decode cX11_sendPlanned 42 = .ok (.aload_n 0, 1) := by decide +kernel
theorem dX11_sendPlanned_43 : decode cX11_sendPlanned 43 = .ok (.getfield 9, 3) := by decide +kernel
theorem dX11_sendPlanned_46 : decode cX11_sendPlanned 46 = .ok (.iload_n 1, 1) := by decide +kernel
theorem dX11_sendPlanned_47 : decode cX11_sendPlanned 47 = .ok (.iconst 0, 1) := by decide +kernel
theorem dX11_sendPlanned_48 : decode cX11_sendPlanned 48 = .ok (.invokestatic 164, 3) := by decide +kernel
theorem dX11_sendPlanned_51 : decode cX11_sendPlanned 51 = .ok (.iaload, 1) := by decide +kernel
theorem dX11_sendPlanned_52 : decode cX11_sendPlanned 52 = .ok (.aload_n 0, 1) := by decide +kernel
theorem dX11_sendPlanned_53 : decode cX11_sendPlanned 53 = .ok (.getfield 9, 3) := by decide +kernel
theorem dX11_sendPlanned_56 : decode cX11_sendPlanned 56 = .ok (.iload_n 1, 1) := by decide +kernel
theorem dX11_sendPlanned_57 : decode cX11_sendPlanned 57 = .ok (.iconst 1, 1) := by decide +kernel
theorem dX11_sendPlanned_58 : decode cX11_sendPlanned 58 = .ok (.invokestatic 164, 3) := by decide +kernel
theorem dX11_sendPlanned_61 : decode cX11_sendPlanned 61 = .ok (.iaload, 1) := by decide +kernel
theorem dX11_sendPlanned_62 : decode cX11_sendPlanned 62 = .ok (.aload_n 0, 1) := by decide +kernel
theorem dX11_sendPlanned_63 : decode cX11_sendPlanned 63 = .ok (.getfield 9, 3) := by decide +kernel
theorem dX11_sendPlanned_66 : decode cX11_sendPlanned 66 = .ok (.iload_n 1, 1) := by decide +kernel
theorem dX11_sendPlanned_67 : decode cX11_sendPlanned 67 = .ok (.iconst 2, 1) := by decide +kernel
theorem dX11_sendPlanned_68 : decode cX11_sendPlanned 68 = .ok (.invokestatic 164, 3) := by decide +kernel
theorem dX11_sendPlanned_71 : decode cX11_sendPlanned 71 = .ok (.iaload, 1) := by decide +kernel
theorem dX11_sendPlanned_72 : decode cX11_sendPlanned 72 = .ok (.invokevirtual 167, 3) := by decide +kernel
theorem dX11_sendPlanned_75 : decode cX11_sendPlanned 75 = .ok (.iinc 1 1, 3) := by decide +kernel
theorem dX11_sendPlanned_78 : decode cX11_sendPlanned 78 = .ok (.goto (-76), 3) := by decide +kernel
theorem dX11_sendPlanned_81 : decode cX11_sendPlanned 81 = .ok (.return_, 1) := by decide +kernel
theorem dX11_isInGoal_0 : decode cX11_isInGoal 0 = .ok (.aload_n 0, 1) := by decide +kernel
theorem dX11_isInGoal_1 : decode cX11_isInGoal 1 = .ok (.iload_n 1, 1) := by decide +kernel
theorem dX11_isInGoal_2 : decode cX11_isInGoal 2 = .ok (.iconst 0, 1) := by decide +kernel
theorem dX11_isInGoal_3 : decode cX11_isInGoal 3 = .ok (.invokevirtual 133, 3) := by decide +kernel
theorem dX11_isInGoal_6 : decode cX11_isInGoal 6 = .ok (.aload_n 0, 1) := by decide +kernel
theorem dX11_isInGoal_7 : decode cX11_isInGoal 7 = .ok (.iload_n 2, 1) := by decide +kernel
theorem dX11_isInGoal_8 : decode cX11_isInGoal 8 = .ok (.iconst 1, 1) := by decide +kernel
theorem dX11_isInGoal_9 : decode cX11_isInGoal 9 = .ok (.invokevirtual 130, 3) := by decide +kernel
theorem dX11_isInGoal_12 : decode cX11_isInGoal 12 = .ok (.if_icmp .ne 22, 3) := by decide +kernel
theorem dX11_isInGoal_15 : decode cX11_isInGoal 15 = .ok (.aload_n 0, 1) := by decide +kernel
theorem dX11_isInGoal_16 : decode cX11_isInGoal 16 = .ok (.iload_n 1, 1) := by decide +kernel
theorem dX11_isInGoal_17 : decode cX11_isInGoal 17 = .ok (.iconst 1, 1) := by decide +kernel
theorem dX11_isInGoal_18 : decode cX11_isInGoal 18 = .ok (.invokevirtual 133, 3) := by decide +kernel
theorem dX11_isInGoal_21 : decode cX11_isInGoal 21 = .ok (.aload_n 0, 1) := by decide +kernel
theorem dX11_isInGoal_22 : decode cX11_isInGoal 22 = .ok (.iload_n 2, 1) := by decide +kernel
theorem dX11_isInGoal_23 : decode cX11_isInGoal 23 = .ok (.iconst 2, 1) := by decide +kernel
theorem dX11_isInGoal_24 : decode cX11_isInGoal 24 = .ok (.invokevirtual 130, 3) := by decide +kernel
theorem dX11_isInGoal_27 : decode cX11_isInGoal 27 = .ok (.if_icmp .ne 7, 3) := by decide +kernel
theorem dX11_isInGoal_30 : decode cX11_isInGoal 30 = .ok (.iconst 1, 1) := by decide +kernel
theorem dX11_isInGoal_31 : decode cX11_isInGoal 31 = .ok (.goto 4, 3) := by decide +kernel
theorem dX11_isInGoal_34 : decode cX11_isInGoal 34 = .ok (.iconst 0, 1) := by decide +kernel
theorem dX11_isInGoal_35 : decode cX11_isInGoal 35 = .ok (.ireturn, 1) := by decide +kernel
theorem dX11_walk_0 : decode cX11_walk 0 = .ok (.aload_n 0, 1) := by decide +kernel
theorem dX11_walk_1 : decode cX11_walk 1 = .ok (.aload_n 0, 1) := by decide +kernel
theorem dX11_walk_2 : decode cX11_walk 2 = .ok (.iload_n 2, 1) := by decide +kernel
theorem dX11_walk_3 : decode cX11_walk 3 = .ok (.iconst 1, 1) := by decide +kernel
theorem dX11_walk_4 : decode cX11_walk 4 = .ok (.invokevirtual 130, 3) := by decide +kernel
theorem dX11_walk_7 : decode cX11_walk 7 = .ok (.aload_n 0, 1) := by decide +kernel
theorem dX11_walk_8 : decode cX11_walk 8 = .ok (.iload_n 2, 1) := by decide +kernel
theorem dX11_walk_9 : decode cX11_walk 9 = .ok (.iconst 2, 1) := by decide +kernel
theorem dX11_walk_10 : decode cX11_walk 10 = .ok (.invokevirtual 130, 3) := by decide +kernel
theorem dX11_walk_13 : decode cX11_walk 13 = .ok (.invokevirtual 158, 3) := by decide +kernel
theorem dX11_walk_16 : decode cX11_walk 16 = .ok (.aload_n 0, 1) := by decide +kernel
theorem dX11_walk_17 : decode cX11_walk 17 = .ok (.aload_n 0, 1) := by decide +kernel
theorem dX11_walk_18 : decode cX11_walk 18 = .ok (.iload_n 1, 1) := by decide +kernel
theorem dX11_walk_19 : decode cX11_walk 19 = .ok (.iconst 0, 1) := by decide +kernel
theorem dX11_walk_20 : decode cX11_walk 20 = .ok (.invokevirtual 133, 3) := by decide +kernel
theorem dX11_walk_23 : decode cX11_walk 23 = .ok (.aload_n 0, 1) := by decide +kernel
theorem dX11_walk_24 : decode cX11_walk 24 = .ok (.iload_n 1, 1) := by decide +kernel
theorem dX11_walk_25 : decode cX11_walk 25 = .ok (.iconst 1, 1) := by decide +kernel
theorem dX11_walk_26 : decode cX11_walk 26 = .ok (.invokevirtual 133, 3) := by decide +kernel
theorem dX11_walk_29 : decode cX11_walk 29 = .ok (.invokevirtual 143, 3) := by decide +kernel
theorem dX11_walk_32 : decode cX11_walk 32 = .ok (.istore_n 3, 1) := by decide +kernel
theorem dX11_walk_33 : decode cX11_walk 33 = .ok (.iload_n 3, 1) := by decide +kernel
theorem dX11_walk_34 : decode cX11_walk 34 = .ok (.iconst (-1), 1) := by decide +kernel
theorem dX11_walk_35 : decode cX11_walk 35 = .ok (.if_icmp .eq 39, 3) := by decide +kernel
theorem dX11_walk_38 : decode cX11_walk 38 = .ok (.aload_n 0, 1) := by decide +kernel
theorem dX11_walk_39 : decode cX11_walk 39 = .ok (.getfield 9, 3) := by decide +kernel
theorem dX11_walk_42 : decode cX11_walk 42 = .ok (.iload_n 1, 1) := by decide +kernel
theorem dX11_walk_43 : decode cX11_walk 43 = .ok (.iconst 0, 1) := by decide +kernel
theorem dX11_walk_44 : decode cX11_walk 44 = .ok (.invokestatic 80, 3) := by decide +kernel
theorem dX11_walk_47 : decode cX11_walk 47 = .ok (.dup2, 1) := by decide +kernel
theorem dX11_walk_48 : decode cX11_walk 48 = .ok (.iaload, 1) := by decide +kernel
theorem dX11_walk_49 : decode cX11_walk 49 = .ok (.iload_n 3, 1) := by decide +kernel
theorem dX11_walk_50 : decode cX11_walk 50 = .ok (.iconst 1, 1) := by decide +kernel
theorem dX11_walk_51 : decode cX11_walk 51 = .ok (.invokestatic 107, 3) := by decide +kernel
theorem dX11_walk_54 : decode cX11_walk 54 = .ok (.iadd, 1) := by decide +kernel
theorem dX11_walk_55 : decode cX11_walk 55 = .ok (.iastore, 1) := by decide +kernel
theorem dX11_walk_56 : decode cX11_walk 56 = .ok (.aload_n 0, 1) := by decide +kernel
theorem dX11_walk_57 : decode cX11_walk 57 = .ok (.getfield 9, 3) := by decide +kernel
theorem dX11_walk_60 : decode cX11_walk 60 = .ok (.iload_n 1, 1) := by decide +kernel
theorem dX11_walk_61 : decode cX11_walk 61 = .ok (.iconst 1, 1) := by decide +kernel
theorem dX11_walk_62 : decode cX11_walk 62 = .ok (.invokestatic 80, 3) := by decide +kernel
theorem dX11_walk_65 : decode cX11_walk 65 = .ok (.dup2, 1) := by decide +kernel
theorem dX11_walk_66 : decode cX11_walk 66 = .ok (.iaload, 1) := by decide +kernel
theorem dX11_walk_67 : decode cX11_walk 67 = .ok (.iload_n 3, 1) := by decide +kernel
theorem dX11_walk_68 : decode cX11_walk 68 = .ok (.iconst 0, 1) := by decide +kernel
theorem dX11_walk_69 : decode cX11_walk 69 = .ok (.invokestatic 107, 3) := by decide +kernel
theorem dX11_walk_72 : decode cX11_walk 72 = .ok (.iadd, 1) := by decide +kernel
theorem dX11_walk_73 : decode cX11_walk 73 = .ok (.iastore, 1) := by decide +kernel
theorem dX11_walk_74 : decode cX11_walk 74 = .ok (.return_, 1) := by decide +kernel
theorem dX11_move_0 : decode cX11_move 0 = .ok (.aload_n 0, 1) := by decide +kernel
theorem dX11_move_1 : decode cX11_move 1 = .ok (.iload_n 1, 1) := by decide +kernel
theorem dX11_move_2 : decode cX11_move 2 = .ok (.invokevirtual 140, 3) := by decide +kernel
theorem dX11_move_5 : decode cX11_move 5 = .ok (.istore_n 2, 1) := by decide +kernel
theorem dX11_move_6 : decode cX11_move 6 = .ok (.iload_n 2, 1) := by decide +kernel
theorem dX11_move_7 : decode cX11_move 7 = .ok (.iconst (-1), 1) := by decide +kernel
theorem dX11_move_8 : decode cX11_move 8 = .ok (.if_icmp .ne 4, 3) := by decide +kernel
theorem dX11_move_11 : decode cX11_move 11 = .ok (.return_, 1) := by decide +kernel
theorem dX11_move_12 : decode cX11_move 12 = .ok (.aload_n 0, 1) := by decide +kernel
theorem dX11_move_13 : decode cX11_move 13 = .ok (.iload_n 1, 1) := by decide +kernel
theorem dX11_move_14 : decode cX11_move 14 = .ok (.iload_n 2, 1) := by decide +kernel
theorem dX11_move_15 : decode cX11_move 15 = .ok (.invokevirtual 171, 3) := by decide +kernel
theorem dX11_move_18 : decode cX11_move 18 = .ok (.ifCond .ne 23, 3) := by decide +kernel
theorem dX11_move_21 : decode cX11_move 21 = .ok (.aload_n 0, 1) := by decide +kernel
theorem dX11_move_22 : decode cX11_move 22 = .ok (.invokevirtual 126, 3) := by decide +kernel
theorem dX11_move_25 : decode cX11_move 25 = .ok (.aload_n 0, 1) := by decide +kernel
theorem dX11_move_26 : decode cX11_move 26 = .ok (.iload_n 1, 1) := by decide +kernel
theorem dX11_move_27 : decode cX11_move 27 = .ok (.iconst 2, 1) := by decide +kernel
theorem dX11_move_28 : decode cX11_move 28 = .ok (.invokevirtual 133, 3) := by decide +kernel
theorem dX11_move_31 : decode cX11_move 31 = .ok (.irem, 1) := by decide +kernel
theorem dX11_move_32 : decode cX11_move 32 = .ok (.ifCond .ne 9, 3) := by decide +kernel
theorem dX11_move_35 : decode cX11_move 35 = .ok (.aload_n 0, 1) := by decide +kernel
theorem dX11_move_36 : decode cX11_move 36 = .ok (.iload_n 1, 1) := by decide +kernel
theorem dX11_move_37 : decode cX11_move 37 = .ok (.iload_n 2, 1) := by decide +kernel
theorem dX11_move_38 : decode cX11_move 38 = .ok (.invokevirtual 174, 3) := by decide +kernel
theorem dX11_move_41 : decode cX11_move 41 = .ok (.aload_n 0, 1) := by decide +kernel
theorem dX11_move_42 : decode cX11_move 42 = .ok (.iload_n 1, 1) := by decide +kernel
theorem dX11_move_43 : decode cX11_move 43 = .ok (.iload_n 2, 1) := by decide +kernel
theorem dX11_move_44 : decode cX11_move 44 = .ok (.invokevirtual 171, 3) := by decide +kernel
theorem dX11_move_47 : decode cX11_move 47 = .ok (.ifCond .eq 9, 3) := by decide +kernel
theorem dX11_move_50 : decode cX11_move 50 = .ok (.aload_n 0, 1) := by decide +kernel
theorem dX11_move_51 : decode cX11_move 51 = .ok (.iload_n 2, 1) := by decide +kernel
theorem dX11_move_52 : decode cX11_move 52 = .ok (.iconst 2, 1) := by decide +kernel
theorem dX11_move_53 : decode cX11_move 53 = .ok (.invokevirtual 136, 3) := by decide +kernel
theorem dX11_move_56 : decode cX11_move 56 = .ok (.return_, 1) := by decide +kernel
theorem dX11_remember_0 : decode cX11_remember 0 = .ok (.iconst 0, 1) := by decide +kernel
theorem dX11_remember_1 : decode cX11_remember 1 = .ok (.istore_n 1, 1) := by decide +kernel
theorem dX11_remember_2 : decode cX11_remember 2 = .ok (.iload_n 1, 1) := by decide +kernel
theorem dX11_remember_3 : decode cX11_remember 3 = .ok (.aload_n 0, 1) := by decide +kernel
theorem dX11_remember_4 : decode cX11_remember 4 = .ok (.getfield 9, 3) := by decide +kernel
theorem dX11_remember_7 : decode cX11_remember 7 = .ok (.iconst 2, 1) := by decide +kernel
theorem dX11_remember_8 : decode cX11_remember 8 = .ok (.iaload, 1) := by decide +kernel
theorem dX11_remember_9 : decode cX11_remember 9 = .ok (.if_icmp .ge 48, 3) := by decide +kernel
theorem dX11_remember_12 : decode cX11_remember 12 = .ok (.aload_n 0, 1) := by decide +kernel
theorem dX11_remember_13 : decode cX11_remember 13 = .ok (.invokevirtual 126, 3) := by decide +kernel
theorem dX11_remember_16 : decode cX11_remember 16 = .ok (.sipush 500, 3) := by decide +kernel
theorem dX11_remember_19 : decode cX11_remember 19 = .ok (.if_icmp .gt 38, 3) := by decide +kernel
theorem dX11_remember_22 : decode cX11_remember 22 = .ok (.aload_n 0, 1) := by decide +kernel
theorem dX11_remember_23 : decode cX11_remember 23 = .ok (.getfield 9, 3) := by decide +kernel
theorem dX11_remember_26 : decode cX11_remember 26 = .ok (.iload_n 1, 1) := by decide +kernel
theorem dX11_remember_27 : decode cX11_remember 27 = .ok (.aload_n 0, 1) := by decide +kernel
theorem dX11_remember_28 : decode cX11_remember 28 = .ok (.invokevirtual 126, 3) := by decide +kernel
theorem dX11_remember_31 : decode cX11_remember 31 = .ok (.invokestatic 177, 3) := by decide +kernel
theorem dX11_remember_34 : decode cX11_remember 34 = .ok (.bipush 100, 2) := by decide +kernel
theorem dX11_remember_36 : decode cX11_remember 36 = .ok (.aload_n 0, 1) := by decide +kernel
theorem dX11_remember_37 : decode cX11_remember 37 = .ok (.iload_n 1, 1) := by decide +kernel
theorem dX11_remember_38 : decode cX11_remember 38 = .ok (.iconst 1, 1) := by decide +kernel
theorem dX11_remember_39 : decode cX11_remember 39 = .ok (.invokevirtual 133, 3) := by decide +kernel
theorem dX11_remember_42 : decode cX11_remember 42 = .ok (.imul, 1) := by decide +kernel
theorem dX11_remember_43 : decode cX11_remember 43 = .ok (.aload_n 0, 1) := by decide +kernel
theorem dX11_remember_44 : decode cX11_remember 44 = .ok (.iload_n 1, 1) := by decide +kernel
theorem dX11_remember_45 : decode cX11_remember 45 = .ok (.iconst 0, 1) := by decide +kernel
theorem dX11_remember_46 : decode cX11_remember 46 = .ok (.invokevirtual 133, 3) := by decide +kernel
theorem dX11_remember_49 : decode cX11_remember 49 = .ok (.iadd, 1) := by decide +kernel
theorem dX11_remember_50 : decode cX11_remember 50 = .ok (.iastore, 1) := by decide +kernel
theorem dX11_remember_51 : decode cX11_remember 51 = .ok (.iinc 1 1, 3) := by decide +kernel
theorem dX11_remember_54 : decode cX11_remember 54 = .ok (.goto (-52), 3) := by decide +kernel
theorem dX11_remember_57 : decode cX11_remember 57 = .ok (.return_, 1) := by decide +kernel
theorem dX11_passTurn_0 : decode cX11_passTurn 0 = .ok (.aload_n 0, 1) := by decide +kernel
theorem dX11_passTurn_1 : decode cX11_passTurn 1 = .ok (.invokevirtual 180, 3) := by decide +kernel
theorem dX11_passTurn_4 : decode cX11_passTurn 4 = .ok (.aload_n 0, 1) := by decide +kernel
theorem dX11_passTurn_5 : decode cX11_passTurn 5 = .ok (.getfield 9, 3) := by decide +kernel
theorem dX11_passTurn_8 : decode cX11_passTurn 8 = .ok (.iconst 4, 1) := by decide +kernel
theorem dX11_passTurn_9 : decode cX11_passTurn 9 = .ok (.iaload, 1) := by decide +kernel
theorem dX11_passTurn_10 : decode cX11_passTurn 10 = .ok (.istore_n 1, 1) := by decide +kernel
theorem dX11_passTurn_11 : decode cX11_passTurn 11 = .ok (.iconst 0, 1) := by decide +kernel
theorem dX11_passTurn_12 : decode cX11_passTurn 12 = .ok (.istore_n 2, 1) := by decide +kernel
theorem dX11_passTurn_13 : decode cX11_passTurn 13 = .ok (.iload_n 2, 1) := by decide +kernel
theorem dX11_passTurn_14 : decode cX11_passTurn 14 = .ok (.iload_n 1, 1) := by decide +kernel
theorem dX11_passTurn_15 : decode cX11_passTurn 15 = .ok (.if_icmp .ge 23, 3) := by decide +kernel
theorem dX11_passTurn_18 : decode cX11_passTurn 18 = .ok (.aload_n 0, 1) := by decide +kernel
theorem dX11_passTurn_19 : decode cX11_passTurn 19 = .ok (.iload_n 2, 1) := by decide +kernel
theorem dX11_passTurn_20 : decode cX11_passTurn 20 = .ok (.iconst 3, 1) := by decide +kernel
theorem dX11_passTurn_21 : decode cX11_passTurn 21 = .ok (.invokevirtual 130, 3) := by decide +kernel
theorem dX11_passTurn_24 : decode cX11_passTurn 24 = .ok (.ifCond .ne 8, 3) := by decide +kernel
theorem dX11_passTurn_27 : decode cX11_passTurn 27 = .ok (.aload_n 0, 1) := by decide +kernel
theorem dX11_passTurn_28 : decode cX11_passTurn 28 = .ok (.iload_n 2, 1) := by decide +kernel
theorem dX11_passTurn_29 : decode cX11_passTurn 29 = .ok (.invokevirtual 183, 3) := by decide +kernel
theorem dX11_passTurn_32 : decode cX11_passTurn 32 = .ok (.iinc 2 1, 3) := by decide +kernel
theorem dX11_passTurn_35 : decode cX11_passTurn 35 = .ok (.goto (-22), 3) := by decide +kernel
theorem dX11_passTurn_38 : decode cX11_passTurn 38 = .ok (.iconst 0, 1) := by decide +kernel
theorem dX11_passTurn_39 : decode cX11_passTurn 39 = .ok (.istore_n 2, 1) := by decide +kernel
theorem dX11_passTurn_40 : decode cX11_passTurn 40 = .ok (.iload_n 2, 1) := by decide +kernel
theorem dX11_passTurn_41 : decode cX11_passTurn 41 = .ok (.iload_n 1, 1) := by decide +kernel
theorem dX11_passTurn_42 : decode cX11_passTurn 42 = .ok (.if_icmp .ge 45, 3) := by decide +kernel
theorem dX11_passTurn_45 : decode cX11_passTurn 45 = .ok (.aload_n 0, 1) := by decide +kernel
theorem dX11_passTurn_46 : decode cX11_passTurn 46 = .ok (.iload_n 2, 1) := by decide +kernel
theorem dX11_passTurn_47 : decode cX11_passTurn 47 = .ok (.iconst 3, 1) := by decide +kernel
theorem dX11_passTurn_48 : decode cX11_passTurn 48 = .ok (.invokevirtual 130, 3) := by decide +kernel
theorem dX11_passTurn_51 : decode cX11_passTurn 51 = .ok (.ifCond .ne 30, 3) := by decide +kernel
theorem dX11_passTurn_54 : decode cX11_passTurn 54 = .ok (.aload_n 0, 1) := by decide +kernel
theorem dX11_passTurn_55 : decode cX11_passTurn 55 = .ok (.invokevirtual 126, 3) := by decide +kernel
theorem dX11_passTurn_58 : decode cX11_passTurn 58 = .ok (.aload_n 0, 1) := by decide +kernel
theorem dX11_passTurn_59 : decode cX11_passTurn 59 = .ok (.iload_n 2, 1) := by decide +kernel
theorem dX11_passTurn_60 : decode cX11_passTurn 60 = .ok (.iconst 4, 1) := by decide +kernel
theorem dX11_passTurn_61 : decode cX11_passTurn 61 = .ok (.invokevirtual 130, 3) := by decide +kernel
theorem dX11_passTurn_64 : decode cX11_passTurn 64 = .ok (.isub, 1) := by decide +kernel
theorem dX11_passTurn_65 : decode cX11_passTurn 65 = .ok (.aload_n 0, 1) := by decide +kernel
theorem dX11_passTurn_66 : decode cX11_passTurn 66 = .ok (.getfield 9, 3) := by decide +kernel
theorem dX11_passTurn_69 : decode cX11_passTurn 69 = .ok (.bipush 9, 2) := by decide +kernel
theorem dX11_passTurn_71 : decode cX11_passTurn 71 = .ok (.iaload, 1) := by decide +kernel
theorem dX11_passTurn_72 : decode cX11_passTurn 72 = .ok (.if_icmp .lt 9, 3) := by decide +kernel
theorem dX11_passTurn_75 : decode cX11_passTurn 75 = .ok (.aload_n 0, 1) := by decide +kernel
theorem dX11_passTurn_76 : decode cX11_passTurn 76 = .ok (.iload_n 2, 1) := by decide +kernel
theorem dX11_passTurn_77 : decode cX11_passTurn 77 = .ok (.iconst 4, 1) := by decide +kernel
theorem dX11_passTurn_78 : decode cX11_passTurn 78 = .ok (.invokevirtual 136, 3) := by decide +kernel
theorem dX11_passTurn_81 : decode cX11_passTurn 81 = .ok (.iinc 2 1, 3) := by decide +kernel
theorem dX11_passTurn_84 : decode cX11_passTurn 84 = .ok (.goto (-44), 3) := by decide +kernel
theorem dX11_passTurn_87 : decode cX11_passTurn 87 = .ok (.iconst 0, 1) := by decide +kernel
theorem dX11_passTurn_88 : decode cX11_passTurn 88 = .ok (.istore_n 2, 1) := by decide +kernel
theorem dX11_passTurn_89 : decode cX11_passTurn 89 = .ok (.iload_n 2, 1) := by decide +kernel
theorem dX11_passTurn_90 : decode cX11_passTurn 90 = .ok (.aload_n 0, 1) := by decide +kernel
theorem dX11_passTurn_91 : decode cX11_passTurn 91 = .ok (.getfield 9, 3) := by decide +kernel
theorem dX11_passTurn_94 : decode cX11_passTurn 94 = .ok (.iconst 2, 1) := by decide +kernel
theorem dX11_passTurn_95 : decode cX11_passTurn 95 = .ok (.iaload, 1) := by decide +kernel
theorem dX11_passTurn_96 : decode cX11_passTurn 96 = .ok (.if_icmp .ge 14, 3) := by decide +kernel
theorem dX11_passTurn_99 : decode cX11_passTurn 99 = .ok (.aload_n 0, 1) := by decide +kernel
theorem dX11_passTurn_100 : decode cX11_passTurn 100 = .ok (.iload_n 2, 1) := by decide +kernel
theorem dX11_passTurn_101 : decode cX11_passTurn 101 = .ok (.invokevirtual 186, 3) := by decide +kernel
theorem dX11_passTurn_104 : decode cX11_passTurn 104 = .ok (.iinc 2 1, 3) := by decide +kernel
theorem dX11_passTurn_107 : decode cX11_passTurn 107 = .ok (.goto (-18), 3) := by decide +kernel
theorem dX11_passTurn_110 : decode cX11_passTurn 110 = .ok (.aload_n 0, 1) := by decide +kernel
theorem dX11_passTurn_111 : decode cX11_passTurn 111 = .ok (.getfield 9, 3) := by decide +kernel
theorem dX11_passTurn_114 : decode cX11_passTurn 114 = .ok (.iconst 5, 1) := by decide +kernel
theorem dX11_passTurn_115 : decode cX11_passTurn 115 = .ok (.dup2, 1) := by decide +kernel
theorem dX11_passTurn_116 : decode cX11_passTurn 116 = .ok (.iaload, 1) := by decide +kernel
theorem dX11_passTurn_117 : decode cX11_passTurn 117 = .ok (.iconst 1, 1) := by decide +kernel
theorem dX11_passTurn_118 : decode cX11_passTurn 118 = .ok (.iadd, 1) := by decide +kernel
theorem dX11_passTurn_119 : decode cX11_passTurn 119 = .ok (.iastore, 1) := by decide +kernel
theorem dX11_passTurn_120 : decode cX11_passTurn 120 = .ok (.aload_n 0, 1) := by decide +kernel
theorem dX11_passTurn_121 : decode cX11_passTurn 121 = .ok (.invokevirtual 189, 3) := by decide +kernel
theorem dX11_passTurn_124 : decode cX11_passTurn 124 = .ok (.return_, 1) := by decide +kernel
theorem dX11_size_0 : decode cX11_size 0 = .ok (.aload_n 0, 1) := by decide +kernel
theorem dX11_size_1 : decode cX11_size 1 = .ok (.iconst 0, 1) := by decide +kernel
theorem dX11_size_2 : decode cX11_size 2 = .ok (.putfield 77, 3) := by decide +kernel
theorem dX11_size_5 : decode cX11_size 5 = .ok (.iload_n 1, 1) := by decide +kernel
theorem dX11_size_6 : decode cX11_size 6 = .ok (.iconst 0, 1) := by decide +kernel
theorem dX11_size_7 : decode cX11_size 7 = .ok (.bipush 11, 2) := by decide +kernel
theorem dX11_size_9 : decode cX11_size 9 = .ok (.invokestatic 90, 3) := by decide +kernel
theorem dX11_size_12 : decode cX11_size 12 = .ok (.ifCond .eq 12, 3) := by decide +kernel
theorem dX11_size_15 : decode cX11_size 15 = .ok (.aload_n 0, 1) := by decide +kernel
theorem dX11_size_16 : decode cX11_size 16 = .ok (.getfield 9, 3) := by decide +kernel
theorem dX11_size_19 : decode cX11_size 19 = .ok (.iload_n 1, 1) := by decide +kernel
theorem dX11_size_20 : decode cX11_size 20 = .ok (.iaload, 1) := by decide +kernel
theorem dX11_size_21 : decode cX11_size 21 = .ok (.goto 8, 3) := by decide +kernel
theorem dX11_size_24 : decode cX11_size 24 = .ok (.aload_n 0, 1) := by decide +kernel
theorem dX11_size_25 : decode cX11_size 25 = .ok (.iconst 1, 1) := by decide +kernel
theorem dX11_size_26 : decode cX11_size 26 = .ok (.invokevirtual 192, 3) := by decide +kernel
theorem dX11_size_29 : decode cX11_size 29 = .ok (.ireturn, 1) := by decide +kernel
theorem dX11_onWayTo_0 : decode cX11_onWayTo 0 = .ok (.iconst 0, 1) := by decide +kernel
theorem dX11_onWayTo_1 : decode cX11_onWayTo 1 = .ok (.istore_n 2, 1) := by decide +kernel
theorem dX11_onWayTo_2 : decode cX11_onWayTo 2 = .ok (.iconst 0, 1) := by decide +kernel
theorem dX11_onWayTo_3 : decode cX11_onWayTo 3 = .ok (.istore_n 3, 1) := by decide +kernel
theorem dX11_onWayTo_4 : decode cX11_onWayTo 4 = .ok (.iload_n 3, 1) := by decide +kernel
theorem dX11_onWayTo_5 : decode cX11_onWayTo 5 = .ok (.aload_n 0, 1) := by decide +kernel
theorem dX11_onWayTo_6 : decode cX11_onWayTo 6 = .ok (.getfield 9, 3) := by decide +kernel
theorem dX11_onWayTo_9 : decode cX11_onWayTo 9 = .ok (.iconst 4, 1) := by decide +kernel
theorem dX11_onWayTo_10 : decode cX11_onWayTo 10 = .ok (.iaload, 1) := by decide +kernel
theorem dX11_onWayTo_11 : decode cX11_onWayTo 11 = .ok (.if_icmp .ge 36, 3) := by decide +kernel
theorem dX11_onWayTo_14 : decode cX11_onWayTo 14 = .ok (.iload_n 2, 1) := by decide +kernel
theorem dX11_onWayTo_15 : decode cX11_onWayTo 15 = .ok (.aload_n 0, 1) := by decide +kernel
theorem dX11_onWayTo_16 : decode cX11_onWayTo 16 = .ok (.iload_n 3, 1) := by decide +kernel
theorem dX11_onWayTo_17 : decode cX11_onWayTo 17 = .ok (.iconst 0, 1) := by decide +kernel
theorem dX11_onWayTo_18 : decode cX11_onWayTo 18 = .ok (.invokevirtual 130, 3) := by decide +kernel
theorem dX11_onWayTo_21 : decode cX11_onWayTo 21 = .ok (.iload_n 1, 1) := by decide +kernel
theorem dX11_onWayTo_22 : decode cX11_onWayTo 22 = .ok (.if_icmp .ne 16, 3) := by decide +kernel
theorem dX11_onWayTo_25 : decode cX11_onWayTo 25 = .ok (.aload_n 0, 1) := by decide +kernel
theorem dX11_onWayTo_26 : decode cX11_onWayTo 26 = .ok (.iload_n 3, 1) := by decide +kernel
theorem dX11_onWayTo_27 : decode cX11_onWayTo 27 = .ok (.iconst 3, 1) := by decide +kernel
theorem dX11_onWayTo_28 : decode cX11_onWayTo 28 = .ok (.invokevirtual 130, 3) := by decide +kernel
theorem dX11_onWayTo_31 : decode cX11_onWayTo 31 = .ok (.ifCond .ne 7, 3) := by decide +kernel
theorem dX11_onWayTo_34 : decode cX11_onWayTo 34 = .ok (.iconst 1, 1) := by decide +kernel
theorem dX11_onWayTo_35 : decode cX11_onWayTo 35 = .ok (.goto 4, 3) := by decide +kernel
theorem dX11_onWayTo_38 : decode cX11_onWayTo 38 = .ok (.iconst 0, 1) := by decide +kernel
theorem dX11_onWayTo_39 : decode cX11_onWayTo 39 = .ok (.iadd, 1) := by decide +kernel
theorem dX11_onWayTo_40 : decode cX11_onWayTo 40 = .ok (.istore_n 2, 1) := by decide +kernel
theorem dX11_onWayTo_41 : decode cX11_onWayTo 41 = .ok (.iinc 3 1, 3) := by decide +kernel
theorem dX11_onWayTo_44 : decode cX11_onWayTo 44 = .ok (.goto (-40), 3) := by decide +kernel
theorem dX11_onWayTo_47 : decode cX11_onWayTo 47 = .ok (.iload_n 2, 1) := by decide +kernel
theorem dX11_onWayTo_48 : decode cX11_onWayTo 48 = .ok (.ireturn, 1) := by decide +kernel
theorem dX11_unit_0 : decode cX11_unit 0 = .ok (.aload_n 0, 1) := by decide +kernel
theorem dX11_unit_1 : decode cX11_unit 1 = .ok (.iconst 0, 1) := by decide +kernel
theorem dX11_unit_2 : decode cX11_unit 2 = .ok (.putfield 77, 3) := by decide +kernel
theorem dX11_unit_5 : decode cX11_unit 5 = .ok (.aload_n 0, 1) := by decide +kernel
theorem dX11_unit_6 : decode cX11_unit 6 = .ok (.iload_n 1, 1) := by decide +kernel
theorem dX11_unit_7 : decode cX11_unit 7 = .ok (.invokevirtual 195, 3) := by decide +kernel
theorem dX11_unit_10 : decode cX11_unit 10 = .ok (.ifCond .eq 12, 3) := by decide +kernel
theorem dX11_unit_13 : decode cX11_unit 13 = .ok (.iload_n 2, 1) := by decide +kernel
theorem dX11_unit_14 : decode cX11_unit 14 = .ok (.iconst 0, 1) := by decide +kernel
theorem dX11_unit_15 : decode cX11_unit 15 = .ok (.iconst 5, 1) := by decide +kernel
theorem dX11_unit_16 : decode cX11_unit 16 = .ok (.invokestatic 90, 3) := by decide +kernel
theorem dX11_unit_19 : decode cX11_unit 19 = .ok (.ifCond .ne 9, 3) := by decide +kernel
theorem dX11_unit_22 : decode cX11_unit 22 = .ok (.aload_n 0, 1) := by decide +kernel
theorem dX11_unit_23 : decode cX11_unit 23 = .ok (.iconst 1, 1) := by decide +kernel
theorem dX11_unit_24 : decode cX11_unit 24 = .ok (.invokevirtual 192, 3) := by decide +kernel
theorem dX11_unit_27 : decode cX11_unit 27 = .ok (.ireturn, 1) := by decide +kernel
theorem dX11_unit_28 : decode cX11_unit 28 = .ok (.iload_n 2, 1) := by decide +kernel
theorem dX11_unit_29 : decode cX11_unit 29 = .ok (.iconst 4, 1) := by decide +kernel
theorem dX11_unit_30 : decode cX11_unit 30 = .ok (.if_icmp .ge 12, 3) := by decide +kernel
theorem dX11_unit_33 : decode cX11_unit 33 = .ok (.aload_n 0, 1) := by decide +kernel
theorem dX11_unit_34 : decode cX11_unit 34 = .ok (.iload_n 1, 1) := by decide +kernel
theorem dX11_unit_35 : decode cX11_unit 35 = .ok (.iload_n 2, 1) := by decide +kernel
theorem dX11_unit_36 : decode cX11_unit 36 = .ok (.invokevirtual 133, 3) := by decide +kernel
theorem dX11_unit_39 : decode cX11_unit 39 = .ok (.goto 21, 3) := by decide +kernel
theorem dX11_unit_42 : decode cX11_unit 42 = .ok (.iload_n 2, 1) := by decide +kernel
theorem dX11_unit_43 : decode cX11_unit 43 = .ok (.iconst 4, 1) := by decide +kernel
theorem dX11_unit_44 : decode cX11_unit 44 = .ok (.if_icmp .ne 11, 3) := by decide +kernel
theorem dX11_unit_47 : decode cX11_unit 47 = .ok (.aload_n 0, 1) := by decide +kernel
theorem dX11_unit_48 : decode cX11_unit 48 = .ok (.iload_n 1, 1) := by decide +kernel
theorem dX11_unit_49 : decode cX11_unit 49 = .ok (.invokevirtual 140, 3) := by decide +kernel
theorem dX11_unit_52 : decode cX11_unit 52 = .ok (.goto 8, 3) := by decide +kernel
theorem dX11_unit_55 : decode cX11_unit 55 = .ok (.aload_n 0, 1) := by decide +kernel
theorem dX11_unit_56 : decode cX11_unit 56 = .ok (.iload_n 1, 1) := by decide +kernel
theorem dX11_unit_57 : decode cX11_unit 57 = .ok (.invokevirtual 198, 3) := by decide +kernel
theorem dX11_unit_60 : decode cX11_unit 60 = .ok (.ireturn, 1) := by decide +kernel
theorem dX11_picket_0 : decode cX11_picket 0 = .ok (.aload_n 0, 1) := by decide +kernel
theorem dX11_picket_1 : decode cX11_picket 1 = .ok (.iconst 0, 1) := by decide +kernel
theorem dX11_picket_2 : decode cX11_picket 2 = .ok (.putfield 77, 3) := by decide +kernel
theorem dX11_picket_5 : decode cX11_picket 5 = .ok (.aload_n 0, 1) := by decide +kernel
theorem dX11_picket_6 : decode cX11_picket 6 = .ok (.iload_n 1, 1) := by decide +kernel
theorem dX11_picket_7 : decode cX11_picket 7 = .ok (.invokevirtual 201, 3) := by decide +kernel
theorem dX11_picket_10 : decode cX11_picket 10 = .ok (.ifCond .eq 13, 3) := by decide +kernel
theorem dX11_picket_13 : decode cX11_picket 13 = .ok (.iload_n 2, 1) := by decide +kernel
theorem dX11_picket_14 : decode cX11_picket 14 = .ok (.iconst 0, 1) := by decide +kernel
theorem dX11_picket_15 : decode cX11_picket 15 = .ok (.bipush 7, 2) := by decide +kernel
theorem dX11_picket_17 : decode cX11_picket 17 = .ok (.invokestatic 90, 3) := by decide +kernel
theorem dX11_picket_20 : decode cX11_picket 20 = .ok (.ifCond .ne 9, 3) := by decide +kernel
theorem dX11_picket_23 : decode cX11_picket 23 = .ok (.aload_n 0, 1) := by decide +kernel
theorem dX11_picket_24 : decode cX11_picket 24 = .ok (.iconst 1, 1) := by decide +kernel
theorem dX11_picket_25 : decode cX11_picket 25 = .ok (.invokevirtual 192, 3) := by decide +kernel
theorem dX11_picket_28 : decode cX11_picket 28 = .ok (.ireturn, 1) := by decide +kernel
theorem dX11_picket_29 : decode cX11_picket 29 = .ok (.iload_n 2, 1) := by decide +kernel
theorem dX11_picket_30 : decode cX11_picket 30 = .ok (.bipush 6, 2) := by decide +kernel
theorem dX11_picket_32 : decode cX11_picket 32 = .ok (.if_icmp .ne 21, 3) := by decide +kernel
theorem dX11_picket_35 : decode cX11_picket 35 = .ok (.aload_n 0, 1) := by decide +kernel
theorem dX11_picket_36 : decode cX11_picket 36 = .ok (.iload_n 1, 1) := by decide +kernel
theorem dX11_picket_37 : decode cX11_picket 37 = .ok (.aload_n 0, 1) := by decide +kernel
theorem dX11_picket_38 : decode cX11_picket 38 = .ok (.invokevirtual 126, 3) := by decide +kernel
theorem dX11_picket_41 : decode cX11_picket 41 = .ok (.invokevirtual 123, 3) := by decide +kernel
theorem dX11_picket_44 : decode cX11_picket 44 = .ok (.ifCond .eq 7, 3) := by decide +kernel
theorem dX11_picket_47 : decode cX11_picket 47 = .ok (.iconst 1, 1) := by decide +kernel
theorem dX11_picket_48 : decode cX11_picket 48 = .ok (.goto 4, 3) := by decide +kernel
theorem dX11_picket_51 : decode cX11_picket 51 = .ok (.iconst 0, 1) := by decide +kernel
theorem dX11_picket_52 : decode cX11_picket 52 = .ok (.ireturn, 1) := by decide +kernel
theorem dX11_picket_53 : decode cX11_picket 53 = .ok (.aload_n 0, 1) := by decide +kernel
theorem dX11_picket_54 : decode cX11_picket 54 = .ok (.iload_n 1, 1) := by decide +kernel
theorem dX11_picket_55 : decode cX11_picket 55 = .ok (.iload_n 2, 1) := by decide +kernel
theorem dX11_picket_56 : decode cX11_picket 56 = .ok (.bipush 7, 2) := by decide +kernel
theorem dX11_picket_58 : decode cX11_picket 58 = .ok (.if_icmp .ne 8, 3) := by decide +kernel
theorem dX11_picket_61 : decode cX11_picket 61 = .ok (.bipush 6, 2) := by decide +kernel
theorem dX11_picket_63 : decode cX11_picket 63 = .ok (.goto 4, 3) := by decide +kernel
theorem dX11_picket_66 : decode cX11_picket 66 = .ok (.iload_n 2, 1) := by decide +kernel
theorem dX11_picket_67 : decode cX11_picket 67 = .ok (.invokevirtual 111, 3) := by decide +kernel
theorem dX11_picket_70 : decode cX11_picket 70 = .ok (.ireturn, 1) := by decide +kernel
theorem dX11_order_0 : decode cX11_order 0 = .ok (.aload_n 0, 1) := by decide +kernel
theorem dX11_order_1 : decode cX11_order 1 = .ok (.iconst 0, 1) := by decide +kernel
theorem dX11_order_2 : decode cX11_order 2 = .ok (.putfield 77, 3) := by decide +kernel
theorem dX11_order_5 : decode cX11_order 5 = .ok (.aload_n 0, 1) := by decide +kernel
theorem dX11_order_6 : decode cX11_order 6 = .ok (.iload_n 1, 1) := by decide +kernel
theorem dX11_order_7 : decode cX11_order 7 = .ok (.invokevirtual 204, 3) := by decide +kernel
theorem dX11_order_10 : decode cX11_order 10 = .ok (.ifCond .eq 22, 3) := by decide +kernel
theorem dX11_order_13 : decode cX11_order 13 = .ok (.iload_n 2, 1) := by decide +kernel
theorem dX11_order_14 : decode cX11_order 14 = .ok (.iconst 0, 1) := by decide +kernel
theorem dX11_order_15 : decode cX11_order 15 = .ok (.bipush 9, 2) := by decide +kernel
theorem dX11_order_17 : decode cX11_order 17 = .ok (.invokestatic 90, 3) := by decide +kernel
theorem dX11_order_20 : decode cX11_order 20 = .ok (.ifCond .eq 12, 3) := by decide +kernel
theorem dX11_order_23 : decode cX11_order 23 = .ok (.aload_n 0, 1) := by decide +kernel
theorem dX11_order_24 : decode cX11_order 24 = .ok (.iload_n 1, 1) := by decide +kernel
theorem dX11_order_25 : decode cX11_order 25 = .ok (.iload_n 2, 1) := by decide +kernel
theorem dX11_order_26 : decode cX11_order 26 = .ok (.invokevirtual 130, 3) := by decide +kernel
theorem dX11_order_29 : decode cX11_order 29 = .ok (.goto 8, 3) := by decide +kernel
theorem dX11_order_32 : decode cX11_order 32 = .ok (.aload_n 0, 1) := by decide +kernel
theorem dX11_order_33 : decode cX11_order 33 = .ok (.iconst 1, 1) := by decide +kernel
theorem dX11_order_34 : decode cX11_order 34 = .ok (.invokevirtual 192, 3) := by decide +kernel
theorem dX11_order_37 : decode cX11_order 37 = .ok (.ireturn, 1) := by decide +kernel
theorem dX11_plan_0 : decode cX11_plan 0 = .ok (.aload_n 0, 1) := by decide +kernel
theorem dX11_plan_1 : decode cX11_plan 1 = .ok (.iconst 0, 1) := by decide +kernel
theorem dX11_plan_2 : decode cX11_plan 2 = .ok (.putfield 77, 3) := by decide +kernel
theorem dX11_plan_5 : decode cX11_plan 5 = .ok (.aload_n 0, 1) := by decide +kernel
theorem dX11_plan_6 : decode cX11_plan 6 = .ok (.iload_n 1, 1) := by decide +kernel
theorem dX11_plan_7 : decode cX11_plan 7 = .ok (.invokevirtual 207, 3) := by decide +kernel
theorem dX11_plan_10 : decode cX11_plan 10 = .ok (.ifCond .eq 25, 3) := by decide +kernel
theorem dX11_plan_13 : decode cX11_plan 13 = .ok (.iload_n 2, 1) := by decide +kernel
theorem dX11_plan_14 : decode cX11_plan 14 = .ok (.iconst 0, 1) := by decide +kernel
theorem dX11_plan_15 : decode cX11_plan 15 = .ok (.iconst 3, 1) := by decide +kernel
theorem dX11_plan_16 : decode cX11_plan 16 = .ok (.invokestatic 90, 3) := by decide +kernel
theorem dX11_plan_19 : decode cX11_plan 19 = .ok (.ifCond .eq 16, 3) := by decide +kernel
theorem dX11_plan_22 : decode cX11_plan 22 = .ok (.aload_n 0, 1) := by decide +kernel
theorem dX11_plan_23 : decode cX11_plan 23 = .ok (.getfield 9, 3) := by decide +kernel
theorem dX11_plan_26 : decode cX11_plan 26 = .ok (.iload_n 1, 1) := by decide +kernel
theorem dX11_plan_27 : decode cX11_plan 27 = .ok (.iload_n 2, 1) := by decide +kernel
theorem dX11_plan_28 : decode cX11_plan 28 = .ok (.invokestatic 164, 3) := by decide +kernel
theorem dX11_plan_31 : decode cX11_plan 31 = .ok (.iaload, 1) := by decide +kernel
theorem dX11_plan_32 : decode cX11_plan 32 = .ok (.goto 8, 3) := by decide +kernel
theorem dX11_plan_35 : decode cX11_plan 35 = .ok (.aload_n 0, 1) := by decide +kernel
theorem dX11_plan_36 : decode cX11_plan 36 = .ok (.iconst 1, 1) := by decide +kernel
theorem dX11_plan_37 : decode cX11_plan 37 = .ok (.invokevirtual 192, 3) := by decide +kernel
theorem dX11_plan_40 : decode cX11_plan 40 = .ok (.ireturn, 1) := by decide +kernel
theorem dX11_event_0 : decode cX11_event 0 = .ok (.aload_n 0, 1) := by decide +kernel
theorem dX11_event_1 : decode cX11_event 1 = .ok (.iconst 0, 1) := by decide +kernel
theorem dX11_event_2 : decode cX11_event 2 = .ok (.putfield 77, 3) := by decide +kernel
theorem dX11_event_5 : decode cX11_event 5 = .ok (.iload_n 1, 1) := by decide +kernel
theorem dX11_event_6 : decode cX11_event 6 = .ok (.iconst 0, 1) := by decide +kernel
theorem dX11_event_7 : decode cX11_event 7 = .ok (.aload_n 0, 1) := by decide +kernel
theorem dX11_event_8 : decode cX11_event 8 = .ok (.getfield 9, 3) := by decide +kernel
theorem dX11_event_11 : decode cX11_event 11 = .ok (.bipush 7, 2) := by decide +kernel
theorem dX11_event_13 : decode cX11_event 13 = .ok (.iaload, 1) := by decide +kernel
theorem dX11_event_14 : decode cX11_event 14 = .ok (.iconst 1, 1) := by decide +kernel
theorem dX11_event_15 : decode cX11_event 15 = .ok (.isub, 1) := by decide +kernel
theorem dX11_event_16 : decode cX11_event 16 = .ok (.invokestatic 90, 3) := by decide +kernel
theorem dX11_event_19 : decode cX11_event 19 = .ok (.ifCond .eq 16, 3) := by decide +kernel
theorem dX11_event_22 : decode cX11_event 22 = .ok (.iload_n 2, 1) := by decide +kernel
theorem dX11_event_23 : decode cX11_event 23 = .ok (.iconst 0, 1) := by decide +kernel
theorem dX11_event_24 : decode cX11_event 24 = .ok (.iconst 2, 1) := by decide +kernel
theorem dX11_event_25 : decode cX11_event 25 = .ok (.invokestatic 90, 3) := by decide +kernel
theorem dX11_event_28 : decode cX11_event 28 = .ok (.ifCond .eq 7, 3) := by decide +kernel
theorem dX11_event_31 : decode cX11_event 31 = .ok (.iconst 1, 1) := by decide +kernel
theorem dX11_event_32 : decode cX11_event 32 = .ok (.goto 4, 3) := by decide +kernel
theorem dX11_event_35 : decode cX11_event 35 = .ok (.iconst 0, 1) := by decide +kernel
theorem dX11_event_36 : decode cX11_event 36 = .ok (.istore_n 3, 1) := by decide +kernel
theorem dX11_event_37 : decode cX11_event 37 = .ok (.iload_n 3, 1) := by decide +kernel
theorem dX11_event_38 : decode cX11_event 38 = .ok (.ifCond .eq 20, 3) := by decide +kernel
theorem dX11_event_41 : decode cX11_event 41 = .ok (.aload_n 0, 1) := by decide +kernel
theorem dX11_event_42 : decode cX11_event 42 = .ok (.getfield 9, 3) := by decide +kernel
theorem dX11_event_45 : decode cX11_event 45 = .ok (.sipush 544, 3) := by decide +kernel
theorem dX11_event_48 : decode cX11_event 48 = .ok (.iconst 3, 1) := by decide +kernel
theorem dX11_event_49 : decode cX11_event 49 = .ok (.iload_n 1, 1) := by decide +kernel
theorem dX11_event_50 : decode cX11_event 50 = .ok (.imul, 1) := by decide +kernel
theorem dX11_event_51 : decode cX11_event 51 = .ok (.iadd, 1) := by decide +kernel
theorem dX11_event_52 : decode cX11_event 52 = .ok (.iload_n 2, 1) := by decide +kernel
theorem dX11_event_53 : decode cX11_event 53 = .ok (.iadd, 1) := by decide +kernel
theorem dX11_event_54 : decode cX11_event 54 = .ok (.iaload, 1) := by decide +kernel
theorem dX11_event_55 : decode cX11_event 55 = .ok (.goto 8, 3) := by decide +kernel
theorem dX11_event_58 : decode cX11_event 58 = .ok (.aload_n 0, 1) := by decide +kernel
theorem dX11_event_59 : decode cX11_event 59 = .ok (.iconst 1, 1) := by decide +kernel
theorem dX11_event_60 : decode cX11_event 60 = .ok (.invokevirtual 192, 3) := by decide +kernel
theorem dX11_event_63 : decode cX11_event 63 = .ok (.ireturn, 1) := by decide +kernel
theorem dX11_ordersIn_0 : decode cX11_ordersIn 0 = .ok (.iconst 0, 1) := by decide +kernel
theorem dX11_ordersIn_1 : decode cX11_ordersIn 1 = .ok (.istore_n 2, 1) := by decide +kernel
theorem dX11_ordersIn_2 : decode cX11_ordersIn 2 = .ok (.iconst 0, 1) := by decide +kernel
theorem dX11_ordersIn_3 : decode cX11_ordersIn 3 = .ok (.istore_n 3, 1) := by decide +kernel
theorem dX11_ordersIn_4 : decode cX11_ordersIn 4 = .ok (.iload_n 3, 1) := by decide +kernel
theorem dX11_ordersIn_5 : decode cX11_ordersIn 5 = .ok (.aload_n 0, 1) := by decide +kernel
theorem dX11_ordersIn_6 : decode cX11_ordersIn 6 = .ok (.getfield 9, 3) := by decide +kernel
theorem dX11_ordersIn_9 : decode cX11_ordersIn 9 = .ok (.iconst 4, 1) := by decide +kernel
theorem dX11_ordersIn_10 : decode cX11_ordersIn 10 = .ok (.iaload, 1) := by decide +kernel
theorem dX11_ordersIn_11 : decode cX11_ordersIn 11 = .ok (.if_icmp .ge 27, 3) := by decide +kernel
theorem dX11_ordersIn_14 : decode cX11_ordersIn 14 = .ok (.iload_n 2, 1) := by decide +kernel
theorem dX11_ordersIn_15 : decode cX11_ordersIn 15 = .ok (.aload_n 0, 1) := by decide +kernel
theorem dX11_ordersIn_16 : decode cX11_ordersIn 16 = .ok (.iload_n 3, 1) := by decide +kernel
theorem dX11_ordersIn_17 : decode cX11_ordersIn 17 = .ok (.iconst 3, 1) := by decide +kernel
theorem dX11_ordersIn_18 : decode cX11_ordersIn 18 = .ok (.invokevirtual 130, 3) := by decide +kernel
theorem dX11_ordersIn_21 : decode cX11_ordersIn 21 = .ok (.iload_n 1, 1) := by decide +kernel
theorem dX11_ordersIn_22 : decode cX11_ordersIn 22 = .ok (.if_icmp .ne 7, 3) := by decide +kernel
theorem dX11_ordersIn_25 : decode cX11_ordersIn 25 = .ok (.iconst 1, 1) := by decide +kernel
theorem dX11_ordersIn_26 : decode cX11_ordersIn 26 = .ok (.goto 4, 3) := by decide +kernel
theorem dX11_ordersIn_29 : decode cX11_ordersIn 29 = .ok (.iconst 0, 1) := by decide +kernel
theorem dX11_ordersIn_30 : decode cX11_ordersIn 30 = .ok (.iadd, 1) := by decide +kernel
theorem dX11_ordersIn_31 : decode cX11_ordersIn 31 = .ok (.istore_n 2, 1) := by decide +kernel
theorem dX11_ordersIn_32 : decode cX11_ordersIn 32 = .ok (.iinc 3 1, 3) := by decide +kernel
theorem dX11_ordersIn_35 : decode cX11_ordersIn 35 = .ok (.goto (-31), 3) := by decide +kernel
theorem dX11_ordersIn_38 : decode cX11_ordersIn 38 = .ok (.iload_n 2, 1) := by decide +kernel
theorem dX11_ordersIn_39 : decode cX11_ordersIn 39 = .ok (.ireturn, 1) := by decide +kernel
theorem dX11_orders_0 : decode cX11_orders 0 = .ok (.aload_n 0, 1) := by decide +kernel
theorem dX11_orders_1 : decode cX11_orders 1 = .ok (.iconst 0, 1) := by decide +kernel
theorem dX11_orders_2 : decode cX11_orders 2 = .ok (.putfield 77, 3) := by decide +kernel
theorem dX11_orders_5 : decode cX11_orders 5 = .ok (.iload_n 1, 1) := by decide +kernel
theorem dX11_orders_6 : decode cX11_orders 6 = .ok (.iconst 0, 1) := by decide +kernel
theorem dX11_orders_7 : decode cX11_orders 7 = .ok (.bipush 6, 2) := by decide +kernel
theorem dX11_orders_9 : decode cX11_orders 9 = .ok (.invokestatic 90, 3) := by decide +kernel
theorem dX11_orders_12 : decode cX11_orders 12 = .ok (.ifCond .eq 11, 3) := by decide +kernel
theorem dX11_orders_15 : decode cX11_orders 15 = .ok (.aload_n 0, 1) := by decide +kernel
theorem dX11_orders_16 : decode cX11_orders 16 = .ok (.iload_n 1, 1) := by decide +kernel
theorem dX11_orders_17 : decode cX11_orders 17 = .ok (.invokevirtual 210, 3) := by decide +kernel
theorem dX11_orders_20 : decode cX11_orders 20 = .ok (.goto 8, 3) := by decide +kernel
theorem dX11_orders_23 : decode cX11_orders 23 = .ok (.aload_n 0, 1) := by decide +kernel
theorem dX11_orders_24 : decode cX11_orders 24 = .ok (.iconst 1, 1) := by decide +kernel
theorem dX11_orders_25 : decode cX11_orders 25 = .ok (.invokevirtual 192, 3) := by decide +kernel
theorem dX11_orders_28 : decode cX11_orders 28 = .ok (.ireturn, 1) := by decide +kernel
theorem dX11_isWall_0 : decode cX11_isWall 0 = .ok (.aload_n 0, 1) := by decide +kernel
theorem dX11_isWall_1 : decode cX11_isWall 1 = .ok (.aload_n 0, 1) := by decide +kernel
theorem dX11_isWall_2 : decode cX11_isWall 2 = .ok (.iload_n 1, 1) := by decide +kernel
theorem dX11_isWall_3 : decode cX11_isWall 3 = .ok (.iload_n 2, 1) := by decide +kernel
theorem dX11_isWall_4 : decode cX11_isWall 4 = .ok (.invokevirtual 94, 3) := by decide +kernel
theorem dX11_isWall_7 : decode cX11_isWall 7 = .ok (.ifCond .eq 7, 3) := by decide +kernel
theorem dX11_isWall_10 : decode cX11_isWall 10 = .ok (.iconst 0, 1) := by decide +kernel
theorem dX11_isWall_11 : decode cX11_isWall 11 = .ok (.goto 4, 3) := by decide +kernel
theorem dX11_isWall_14 : decode cX11_isWall 14 = .ok (.iconst 1, 1) := by decide +kernel
theorem dX11_isWall_15 : decode cX11_isWall 15 = .ok (.putfield 77, 3) := by decide +kernel
theorem dX11_isWall_18 : decode cX11_isWall 18 = .ok (.aload_n 0, 1) := by decide +kernel
theorem dX11_isWall_19 : decode cX11_isWall 19 = .ok (.getfield 77, 3) := by decide +kernel
theorem dX11_isWall_22 : decode cX11_isWall 22 = .ok (.ifCond .ne 16, 3) := by decide +kernel
theorem dX11_isWall_25 : decode cX11_isWall 25 = .ok (.aload_n 0, 1) := by decide +kernel
theorem dX11_isWall_26 : decode cX11_isWall 26 = .ok (.iload_n 1, 1) := by decide +kernel
theorem dX11_isWall_27 : decode cX11_isWall 27 = .ok (.iload_n 2, 1) := by decide +kernel
theorem dX11_isWall_28 : decode cX11_isWall 28 = .ok (.invokevirtual 101, 3) := by decide +kernel
theorem dX11_isWall_31 : decode cX11_isWall 31 = .ok (.ifCond .ne 7, 3) := by decide +kernel
theorem dX11_isWall_34 : decode cX11_isWall 34 = .ok (.iconst 1, 1) := by decide +kernel
theorem dX11_isWall_35 : decode cX11_isWall 35 = .ok (.goto 4, 3) := by decide +kernel
theorem dX11_isWall_38 : decode cX11_isWall 38 = .ok (.iconst 0, 1) := by decide +kernel
theorem dX11_isWall_39 : decode cX11_isWall 39 = .ok (.ireturn, 1) := by decide +kernel
theorem dX11_isWatched_0 : decode cX11_isWatched 0 = .ok (.aload_n 0, 1) := by decide +kernel
theorem dX11_isWatched_1 : decode cX11_isWatched 1 = .ok (.aload_n 0, 1) := by decide +kernel
theorem dX11_isWatched_2 : decode cX11_isWatched 2 = .ok (.iload_n 1, 1) := by decide +kernel
theorem dX11_isWatched_3 : decode cX11_isWatched 3 = .ok (.iload_n 2, 1) := by decide +kernel
theorem dX11_isWatched_4 : decode cX11_isWatched 4 = .ok (.invokevirtual 94, 3) := by decide +kernel
theorem dX11_isWatched_7 : decode cX11_isWatched 7 = .ok (.ifCond .ne 7, 3) := by decide +kernel
theorem dX11_isWatched_10 : decode cX11_isWatched 10 = .ok (.iconst 1, 1) := by decide +kernel
theorem dX11_isWatched_11 : decode cX11_isWatched 11 = .ok (.goto 12, 3) := by decide +kernel
theorem dX11_isWatched_14 : decode cX11_isWatched 14 = .ok (.iload_n 3, 1) := by decide +kernel
theorem dX11_isWatched_15 : decode cX11_isWatched 15 = .ok (.ifCond .lt 7, 3) := by decide +kernel
theorem dX11_isWatched_18 : decode cX11_isWatched 18 = .ok (.iconst 0, 1) := by decide +kernel
theorem dX11_isWatched_19 : decode cX11_isWatched 19 = .ok (.goto 4, 3) := by decide +kernel
theorem dX11_isWatched_22 : decode cX11_isWatched 22 = .ok (.iconst 2, 1) := by decide +kernel
theorem dX11_isWatched_23 : decode cX11_isWatched 23 = .ok (.putfield 77, 3) := by decide +kernel
theorem dX11_isWatched_26 : decode cX11_isWatched 26 = .ok (.aload_n 0, 1) := by decide +kernel
theorem dX11_isWatched_27 : decode cX11_isWatched 27 = .ok (.getfield 77, 3) := by decide +kernel
theorem dX11_isWatched_30 : decode cX11_isWatched 30 = .ok (.ifCond .ne 18, 3) := by decide +kernel
theorem dX11_isWatched_33 : decode cX11_isWatched 33 = .ok (.aload_n 0, 1) := by decide +kernel
theorem dX11_isWatched_34 : decode cX11_isWatched 34 = .ok (.iload_n 1, 1) := by decide +kernel
theorem dX11_isWatched_35 : decode cX11_isWatched 35 = .ok (.iload_n 2, 1) := by decide +kernel
theorem dX11_isWatched_36 : decode cX11_isWatched 36 = .ok (.iload_n 3, 1) := by decide +kernel
theorem dX11_isWatched_37 : decode cX11_isWatched 37 = .ok (.invokevirtual 146, 3) := by decide +kernel
theorem dX11_isWatched_40 : decode cX11_isWatched 40 = .ok (.iconst (-1), 1) := by decide +kernel
theorem dX11_isWatched_41 : decode cX11_isWatched 41 = .ok (.if_icmp .eq 7, 3) := by decide +kernel
theorem dX11_isWatched_44 : decode cX11_isWatched 44 = .ok (.iconst 1, 1) := by decide +kernel
theorem dX11_isWatched_45 : decode cX11_isWatched 45 = .ok (.goto 4, 3) := by decide +kernel
theorem dX11_isWatched_48 : decode cX11_isWatched 48 = .ok (.iconst 0, 1) := by decide +kernel
theorem dX11_isWatched_49 : decode cX11_isWatched 49 = .ok (.ireturn, 1) := by decide +kernel
theorem dX11_distance_0 : decode cX11_distance 0 = .ok (.aload_n 0, 1) := by decide +kernel
theorem dX11_distance_1 : decode cX11_distance 1 = .ok (.iconst 0, 1) := by decide +kernel
theorem dX11_distance_2 : decode cX11_distance 2 = .ok (.putfield 77, 3) := by decide +kernel
theorem dX11_distance_5 : decode cX11_distance 5 = .ok (.aload_n 0, 1) := by decide +kernel
theorem dX11_distance_6 : decode cX11_distance 6 = .ok (.iload_n 1, 1) := by decide +kernel
theorem dX11_distance_7 : decode cX11_distance 7 = .ok (.iload_n 2, 1) := by decide +kernel
theorem dX11_distance_8 : decode cX11_distance 8 = .ok (.invokevirtual 94, 3) := by decide +kernel
theorem dX11_distance_11 : decode cX11_distance 11 = .ok (.ifCond .eq 13, 3) := by decide +kernel
theorem dX11_distance_14 : decode cX11_distance 14 = .ok (.aload_n 0, 1) := by decide +kernel
theorem dX11_distance_15 : decode cX11_distance 15 = .ok (.iload_n 3, 1) := by decide +kernel
theorem dX11_distance_16 : decode cX11_distance 16 = .ok (.iload 4, 2) := by decide +kernel
theorem dX11_distance_18 : decode cX11_distance 18 = .ok (.invokevirtual 94, 3) := by decide +kernel
theorem dX11_distance_21 : decode cX11_distance 21 = .ok (.ifCond .ne 9, 3) := by decide +kernel
theorem dX11_distance_24 : decode cX11_distance 24 = .ok (.aload_n 0, 1) := by decide +kernel
theorem dX11_distance_25 : decode cX11_distance 25 = .ok (.iconst 1, 1) := by decide +kernel
theorem dX11_distance_26 : decode cX11_distance 26 = .ok (.invokevirtual 192, 3) := by decide +kernel
theorem dX11_distance_29 : decode cX11_distance 29 = .ok (.ireturn, 1) := by decide +kernel
theorem dX11_distance_30 : decode cX11_distance 30 = .ok (.aload_n 0, 1) := by decide +kernel
theorem dX11_distance_31 : decode cX11_distance 31 = .ok (.iload_n 3, 1) := by decide +kernel
theorem dX11_distance_32 : decode cX11_distance 32 = .ok (.iload 4, 2) := by decide +kernel
theorem dX11_distance_34 : decode cX11_distance 34 = .ok (.invokevirtual 158, 3) := by decide +kernel
theorem dX11_distance_37 : decode cX11_distance 37 = .ok (.aload_n 0, 1) := by decide +kernel
theorem dX11_distance_38 : decode cX11_distance 38 = .ok (.getfield 26, 3) := by decide +kernel
theorem dX11_distance_41 : decode cX11_distance 41 = .ok (.bipush 12, 2) := by decide +kernel
theorem dX11_distance_43 : decode cX11_distance 43 = .ok (.iload_n 2, 1) := by decide +kernel
theorem dX11_distance_44 : decode cX11_distance 44 = .ok (.imul, 1) := by decide +kernel
theorem dX11_distance_45 : decode cX11_distance 45 = .ok (.iload_n 1, 1) := by decide +kernel
theorem dX11_distance_46 : decode cX11_distance 46 = .ok (.iadd, 1) := by decide +kernel
theorem dX11_distance_47 : decode cX11_distance 47 = .ok (.iaload, 1) := by decide +kernel
theorem dX11_distance_48 : decode cX11_distance 48 = .ok (.sipush 1000, 3) := by decide +kernel
theorem dX11_distance_51 : decode cX11_distance 51 = .ok (.if_icmp .ne 7, 3) := by decide +kernel
theorem dX11_distance_54 : decode cX11_distance 54 = .ok (.iconst (-1), 1) := by decide +kernel
theorem dX11_distance_55 : decode cX11_distance 55 = .ok (.goto 14, 3) := by decide +kernel
theorem dX11_distance_58 : decode cX11_distance 58 = .ok (.aload_n 0, 1) := by decide +kernel
theorem dX11_distance_59 : decode cX11_distance 59 = .ok (.getfield 26, 3) := by decide +kernel
theorem dX11_distance_62 : decode cX11_distance 62 = .ok (.bipush 12, 2) := by decide +kernel
theorem dX11_distance_64 : decode cX11_distance 64 = .ok (.iload_n 2, 1) := by decide +kernel
theorem dX11_distance_65 : decode cX11_distance 65 = .ok (.imul, 1) := by decide +kernel
theorem dX11_distance_66 : decode cX11_distance 66 = .ok (.iload_n 1, 1) := by decide +kernel
theorem dX11_distance_67 : decode cX11_distance 67 = .ok (.iadd, 1) := by decide +kernel
theorem dX11_distance_68 : decode cX11_distance 68 = .ok (.iaload, 1) := by decide +kernel
theorem dX11_distance_69 : decode cX11_distance 69 = .ok (.ireturn, 1) := by decide +kernel
theorem dX11_step_0 : decode cX11_step 0 = .ok (.aload_n 0, 1) := by decide +kernel
theorem dX11_step_1 : decode cX11_step 1 = .ok (.iconst 0, 1) := by decide +kernel
theorem dX11_step_2 : decode cX11_step 2 = .ok (.putfield 77, 3) := by decide +kernel
theorem dX11_step_5 : decode cX11_step 5 = .ok (.aload_n 0, 1) := by decide +kernel
theorem dX11_step_6 : decode cX11_step 6 = .ok (.iload_n 1, 1) := by decide +kernel
theorem dX11_step_7 : decode cX11_step 7 = .ok (.iload_n 2, 1) := by decide +kernel
theorem dX11_step_8 : decode cX11_step 8 = .ok (.invokevirtual 94, 3) := by decide +kernel
theorem dX11_step_11 : decode cX11_step 11 = .ok (.ifCond .eq 13, 3) := by decide +kernel
theorem dX11_step_14 : decode cX11_step 14 = .ok (.aload_n 0, 1) := by decide +kernel
theorem dX11_step_15 : decode cX11_step 15 = .ok (.iload_n 3, 1) := by decide +kernel
theorem dX11_step_16 : decode cX11_step 16 = .ok (.iload 4, 2) := by decide +kernel
theorem dX11_step_18 : decode cX11_step 18 = .ok (.invokevirtual 94, 3) := by decide +kernel
theorem dX11_step_21 : decode cX11_step 21 = .ok (.ifCond .ne 9, 3) := by decide +kernel
theorem dX11_step_24 : decode cX11_step 24 = .ok (.aload_n 0, 1) := by decide +kernel
theorem dX11_step_25 : decode cX11_step 25 = .ok (.iconst 1, 1) := by decide +kernel
theorem dX11_step_26 : decode cX11_step 26 = .ok (.invokevirtual 192, 3) := by decide +kernel
theorem dX11_step_29 : decode cX11_step 29 = .ok (.ireturn, 1) := by decide +kernel
theorem dX11_step_30 : decode cX11_step 30 = .ok (.aload_n 0, 1) := by decide +kernel
theorem dX11_step_31 : decode cX11_step 31 = .ok (.iload_n 1, 1) := by decide +kernel
theorem dX11_step_32 : decode cX11_step 32 = .ok (.iload_n 2, 1) := by decide +kernel
theorem dX11_step_33 : decode cX11_step 33 = .ok (.invokevirtual 101, 3) := by decide +kernel
theorem dX11_step_36 : decode cX11_step 36 = .ok (.ifCond .eq 13, 3) := by decide +kernel
theorem dX11_step_39 : decode cX11_step 39 = .ok (.aload_n 0, 1) := by decide +kernel
theorem dX11_step_40 : decode cX11_step 40 = .ok (.iload_n 3, 1) := by decide +kernel
theorem dX11_step_41 : decode cX11_step 41 = .ok (.iload 4, 2) := by decide +kernel
theorem dX11_step_43 : decode cX11_step 43 = .ok (.invokevirtual 101, 3) := by decide +kernel
theorem dX11_step_46 : decode cX11_step 46 = .ok (.ifCond .ne 5, 3) := by decide +kernel
theorem dX11_step_49 : decode cX11_step 49 = .ok (.iconst (-1), 1) := by decide +kernel
theorem dX11_step_50 : decode cX11_step 50 = .ok (.ireturn, 1) := by decide +kernel
theorem dX11_step_51 : decode cX11_step 51 = .ok (.aload_n 0, 1) := by decide +kernel
theorem dX11_step_52 : decode cX11_step 52 = .ok (.iload_n 3, 1) := by decide +kernel
theorem dX11_step_53 : decode cX11_step 53 = .ok (.iload 4, 2) := by decide +kernel
theorem dX11_step_55 : decode cX11_step 55 = .ok (.invokevirtual 158, 3) := by decide +kernel
theorem dX11_step_58 : decode cX11_step 58 = .ok (.aload_n 0, 1) := by decide +kernel
theorem dX11_step_59 : decode cX11_step 59 = .ok (.getfield 26, 3) := by decide +kernel
theorem dX11_step_62 : decode cX11_step 62 = .ok (.bipush 12, 2) := by decide +kernel
theorem dX11_step_64 : decode cX11_step 64 = .ok (.iload_n 2, 1) := by decide +kernel
theorem dX11_step_65 : decode cX11_step 65 = .ok (.imul, 1) := by decide +kernel
theorem dX11_step_66 : decode cX11_step 66 = .ok (.iload_n 1, 1) := by decide +kernel
theorem dX11_step_67 : decode cX11_step 67 = .ok (.iadd, 1) := by decide +kernel
theorem dX11_step_68 : decode cX11_step 68 = .ok (.iaload, 1) := by decide +kernel
theorem dX11_step_69 : decode cX11_step 69 = .ok (.ifCond .ne 10, 3) := by decide +kernel
theorem dX11_step_72 : decode cX11_step 72 = .ok (.bipush 100, 2) := by decide +kernel
theorem dX11_step_74 : decode cX11_step 74 = .ok (.iload_n 2, 1) := by decide +kernel
theorem dX11_step_75 : decode cX11_step 75 = .ok (.imul, 1) := by decide +kernel
theorem dX11_step_76 : decode cX11_step 76 = .ok (.iload_n 1, 1) := by decide +kernel
theorem dX11_step_77 : decode cX11_step 77 = .ok (.iadd, 1) := by decide +kernel
theorem dX11_step_78 : decode cX11_step 78 = .ok (.ireturn, 1) := by decide +kernel
theorem dX11_step_79 : decode cX11_step 79 = .ok (.aload_n 0, 1) := by decide +kernel
theorem dX11_step_80 : decode cX11_step 80 = .ok (.iload_n 1, 1) := by decide +kernel
theorem dX11_step_81 : decode cX11_step 81 = .ok (.iload_n 2, 1) := by decide +kernel
theorem dX11_step_82 : decode cX11_step 82 = .ok (.invokevirtual 143, 3) := by decide +kernel
theorem dX11_step_85 : decode cX11_step 85 = .ok (.istore 5, 2) := by decide +kernel
theorem dX11_step_87 : decode cX11_step 87 = .ok (.iload 5, 2) := by decide +kernel
theorem dX11_step_89 : decode cX11_step 89 = .ok (.iconst (-1), 1) := by decide +kernel
theorem dX11_step_90 : decode cX11_step 90 = .ok (.if_icmp .ne 7, 3) := by decide +kernel
theorem dX11_step_93 : decode cX11_step 93 = .ok (.iconst (-1), 1) := by decide +kernel
theorem dX11_step_94 : decode cX11_step 94 = .ok (.goto 23, 3) := by decide +kernel
theorem dX11_step_97 : decode cX11_step 97 = .ok (.bipush 100, 2) := by decide +kernel
theorem dX11_step_99 : decode cX11_step 99 = .ok (.iload_n 2, 1) := by decide +kernel
theorem dX11_step_100 : decode cX11_step 100 = .ok (.iload 5, 2) := by decide +kernel
theorem dX11_step_102 : decode cX11_step 102 = .ok (.iconst 0, 1) := by decide +kernel
theorem dX11_step_103 : decode cX11_step 103 = .ok (.invokestatic 107, 3) := by decide +kernel
theorem dX11_step_106 : decode cX11_step 106 = .ok (.iadd, 1) := by decide +kernel
theorem dX11_step_107 : decode cX11_step 107 = .ok (.imul, 1) := by decide +kernel
theorem dX11_step_108 : decode cX11_step 108 = .ok (.iload_n 1, 1) := by decide +kernel
theorem dX11_step_109 : decode cX11_step 109 = .ok (.iadd, 1) := by decide +kernel
theorem dX11_step_110 : decode cX11_step 110 = .ok (.iload 5, 2) := by decide +kernel
theorem dX11_step_112 : decode cX11_step 112 = .ok (.iconst 1, 1) := by decide +kernel
theorem dX11_step_113 : decode cX11_step 113 = .ok (.invokestatic 107, 3) := by decide +kernel
theorem dX11_step_116 : decode cX11_step 116 = .ok (.iadd, 1) := by decide +kernel
theorem dX11_step_117 : decode cX11_step 117 = .ok (.ireturn, 1) := by decide +kernel
theorem dX11_wasAt_0 : decode cX11_wasAt 0 = .ok (.aload_n 0, 1) := by decide +kernel
theorem dX11_wasAt_1 : decode cX11_wasAt 1 = .ok (.aload_n 0, 1) := by decide +kernel
theorem dX11_wasAt_2 : decode cX11_wasAt 2 = .ok (.iload_n 1, 1) := by decide +kernel
theorem dX11_wasAt_3 : decode cX11_wasAt 3 = .ok (.invokevirtual 195, 3) := by decide +kernel
theorem dX11_wasAt_6 : decode cX11_wasAt 6 = .ok (.ifCond .ne 7, 3) := by decide +kernel
theorem dX11_wasAt_9 : decode cX11_wasAt 9 = .ok (.iconst 1, 1) := by decide +kernel
theorem dX11_wasAt_10 : decode cX11_wasAt 10 = .ok (.goto 20, 3) := by decide +kernel
theorem dX11_wasAt_13 : decode cX11_wasAt 13 = .ok (.iload_n 2, 1) := by decide +kernel
theorem dX11_wasAt_14 : decode cX11_wasAt 14 = .ok (.iconst 0, 1) := by decide +kernel
theorem dX11_wasAt_15 : decode cX11_wasAt 15 = .ok (.aload_n 0, 1) := by decide +kernel
theorem dX11_wasAt_16 : decode cX11_wasAt 16 = .ok (.invokevirtual 126, 3) := by decide +kernel
theorem dX11_wasAt_19 : decode cX11_wasAt 19 = .ok (.invokestatic 90, 3) := by decide +kernel
theorem dX11_wasAt_22 : decode cX11_wasAt 22 = .ok (.ifCond .eq 7, 3) := by decide +kernel
theorem dX11_wasAt_25 : decode cX11_wasAt 25 = .ok (.iconst 0, 1) := by decide +kernel
theorem dX11_wasAt_26 : decode cX11_wasAt 26 = .ok (.goto 4, 3) := by decide +kernel
theorem dX11_wasAt_29 : decode cX11_wasAt 29 = .ok (.iconst 2, 1) := by decide +kernel
theorem dX11_wasAt_30 : decode cX11_wasAt 30 = .ok (.putfield 77, 3) := by decide +kernel
theorem dX11_wasAt_33 : decode cX11_wasAt 33 = .ok (.aload_n 0, 1) := by decide +kernel
theorem dX11_wasAt_34 : decode cX11_wasAt 34 = .ok (.getfield 77, 3) := by decide +kernel
theorem dX11_wasAt_37 : decode cX11_wasAt 37 = .ok (.ifCond .ne 16, 3) := by decide +kernel
theorem dX11_wasAt_40 : decode cX11_wasAt 40 = .ok (.aload_n 0, 1) := by decide +kernel
theorem dX11_wasAt_41 : decode cX11_wasAt 41 = .ok (.getfield 9, 3) := by decide +kernel
theorem dX11_wasAt_44 : decode cX11_wasAt 44 = .ok (.iload_n 1, 1) := by decide +kernel
theorem dX11_wasAt_45 : decode cX11_wasAt 45 = .ok (.iload_n 2, 1) := by decide +kernel
theorem dX11_wasAt_46 : decode cX11_wasAt 46 = .ok (.invokestatic 177, 3) := by decide +kernel
theorem dX11_wasAt_49 : decode cX11_wasAt 49 = .ok (.iaload, 1) := by decide +kernel
theorem dX11_wasAt_50 : decode cX11_wasAt 50 = .ok (.goto 4, 3) := by decide +kernel
theorem dX11_wasAt_53 : decode cX11_wasAt 53 = .ok (.iconst 0, 1) := by decide +kernel
theorem dX11_wasAt_54 : decode cX11_wasAt 54 = .ok (.ireturn, 1) := by decide +kernel
theorem dX11_stateAt_0 : decode cX11_stateAt 0 = .ok (.aload_n 0, 1) := by decide +kernel
theorem dX11_stateAt_1 : decode cX11_stateAt 1 = .ok (.aload_n 0, 1) := by decide +kernel
theorem dX11_stateAt_2 : decode cX11_stateAt 2 = .ok (.iload_n 1, 1) := by decide +kernel
theorem dX11_stateAt_3 : decode cX11_stateAt 3 = .ok (.invokevirtual 204, 3) := by decide +kernel
theorem dX11_stateAt_6 : decode cX11_stateAt 6 = .ok (.ifCond .ne 7, 3) := by decide +kernel
theorem dX11_stateAt_9 : decode cX11_stateAt 9 = .ok (.iconst 1, 1) := by decide +kernel
theorem dX11_stateAt_10 : decode cX11_stateAt 10 = .ok (.goto 20, 3) := by decide +kernel
theorem dX11_stateAt_13 : decode cX11_stateAt 13 = .ok (.iload_n 2, 1) := by decide +kernel
theorem dX11_stateAt_14 : decode cX11_stateAt 14 = .ok (.iconst 0, 1) := by decide +kernel
theorem dX11_stateAt_15 : decode cX11_stateAt 15 = .ok (.aload_n 0, 1) := by decide +kernel
theorem dX11_stateAt_16 : decode cX11_stateAt 16 = .ok (.invokevirtual 126, 3) := by decide +kernel
theorem dX11_stateAt_19 : decode cX11_stateAt 19 = .ok (.invokestatic 90, 3) := by decide +kernel
theorem dX11_stateAt_22 : decode cX11_stateAt 22 = .ok (.ifCond .eq 7, 3) := by decide +kernel
theorem dX11_stateAt_25 : decode cX11_stateAt 25 = .ok (.iconst 0, 1) := by decide +kernel
theorem dX11_stateAt_26 : decode cX11_stateAt 26 = .ok (.goto 4, 3) := by decide +kernel
theorem dX11_stateAt_29 : decode cX11_stateAt 29 = .ok (.iconst 2, 1) := by decide +kernel
theorem dX11_stateAt_30 : decode cX11_stateAt 30 = .ok (.putfield 77, 3) := by decide +kernel
theorem dX11_stateAt_33 : decode cX11_stateAt 33 = .ok (.aload_n 0, 1) := by decide +kernel
theorem dX11_stateAt_34 : decode cX11_stateAt 34 = .ok (.getfield 77, 3) := by decide +kernel
theorem dX11_stateAt_37 : decode cX11_stateAt 37 = .ok (.ifCond .eq 5, 3) := by decide +kernel
theorem dX11_stateAt_40 : decode cX11_stateAt 40 = .ok (.iconst 0, 1) := by decide +kernel
theorem dX11_stateAt_41 : decode cX11_stateAt 41 = .ok (.ireturn, 1) := by decide +kernel
theorem dX11_stateAt_42 : decode cX11_stateAt 42 = .ok (.iload_n 2, 1) := by decide +kernel
theorem dX11_stateAt_43 : decode cX11_stateAt 43 = .ok (.aload_n 0, 1) := by decide +kernel
theorem dX11_stateAt_44 : decode cX11_stateAt 44 = .ok (.iload_n 1, 1) := by decide +kernel
theorem dX11_stateAt_45 : decode cX11_stateAt 45 = .ok (.iconst 4, 1) := by decide +kernel
theorem dX11_stateAt_46 : decode cX11_stateAt 46 = .ok (.invokevirtual 130, 3) := by decide +kernel
theorem dX11_stateAt_49 : decode cX11_stateAt 49 = .ok (.if_icmp .le 7, 3) := by decide +kernel
theorem dX11_stateAt_52 : decode cX11_stateAt 52 = .ok (.iconst 0, 1) := by decide +kernel
theorem dX11_stateAt_53 : decode cX11_stateAt 53 = .ok (.goto 4, 3) := by decide +kernel
theorem dX11_stateAt_56 : decode cX11_stateAt 56 = .ok (.iconst (-1), 1) := by decide +kernel
theorem dX11_stateAt_57 : decode cX11_stateAt 57 = .ok (.istore_n 3, 1) := by decide +kernel
theorem dX11_stateAt_58 : decode cX11_stateAt 58 = .ok (.iconst 0, 1) := by decide +kernel
theorem dX11_stateAt_59 : decode cX11_stateAt 59 = .ok (.istore 4, 2) := by decide +kernel
theorem dX11_stateAt_61 : decode cX11_stateAt 61 = .ok (.iload 4, 2) := by decide +kernel
theorem dX11_stateAt_63 : decode cX11_stateAt 63 = .ok (.aload_n 0, 1) := by decide +kernel
theorem dX11_stateAt_64 : decode cX11_stateAt 64 = .ok (.getfield 9, 3) := by decide +kernel
theorem dX11_stateAt_67 : decode cX11_stateAt 67 = .ok (.bipush 7, 2) := by decide +kernel
theorem dX11_stateAt_69 : decode cX11_stateAt 69 = .ok (.iaload, 1) := by decide +kernel
theorem dX11_stateAt_70 : decode cX11_stateAt 70 = .ok (.if_icmp .ge 57, 3) := by decide +kernel
theorem dX11_stateAt_73 : decode cX11_stateAt 73 = .ok (.sipush 544, 3) := by decide +kernel
theorem dX11_stateAt_76 : decode cX11_stateAt 76 = .ok (.iconst 3, 1) := by decide +kernel
theorem dX11_stateAt_77 : decode cX11_stateAt 77 = .ok (.iload 4, 2) := by decide +kernel
theorem dX11_stateAt_79 : decode cX11_stateAt 79 = .ok (.imul, 1) := by decide +kernel
theorem dX11_stateAt_80 : decode cX11_stateAt 80 = .ok (.iadd, 1) := by decide +kernel
theorem dX11_stateAt_81 : decode cX11_stateAt 81 = .ok (.istore 5, 2) := by decide +kernel
theorem dX11_stateAt_83 : decode cX11_stateAt 83 = .ok (.aload_n 0, 1) := by decide +kernel
theorem dX11_stateAt_84 : decode cX11_stateAt 84 = .ok (.getfield 9, 3) := by decide +kernel
theorem dX11_stateAt_87 : decode cX11_stateAt 87 = .ok (.iload 5, 2) := by decide +kernel
theorem dX11_stateAt_89 : decode cX11_stateAt 89 = .ok (.iconst 1, 1) := by decide +kernel
theorem dX11_stateAt_90 : decode cX11_stateAt 90 = .ok (.iadd, 1) := by decide +kernel
theorem dX11_stateAt_91 : decode cX11_stateAt 91 = .ok (.iaload, 1) := by decide +kernel
theorem dX11_stateAt_92 : decode cX11_stateAt 92 = .ok (.iload_n 1, 1) := by decide +kernel
theorem dX11_stateAt_93 : decode cX11_stateAt 93 = .ok (.if_icmp .ne 26, 3) := by decide +kernel
theorem dX11_stateAt_96 : decode cX11_stateAt 96 = .ok (.aload_n 0, 1) := by decide +kernel
theorem dX11_stateAt_97 : decode cX11_stateAt 97 = .ok (.getfield 9, 3) := by decide +kernel
theorem dX11_stateAt_100 : decode cX11_stateAt 100 = .ok (.iload 5, 2) := by decide +kernel
theorem dX11_stateAt_102 : decode cX11_stateAt 102 = .ok (.iaload, 1) := by decide +kernel
theorem dX11_stateAt_103 : decode cX11_stateAt 103 = .ok (.iload_n 2, 1) := by decide +kernel
theorem dX11_stateAt_104 : decode cX11_stateAt 104 = .ok (.if_icmp .ge 15, 3) := by decide +kernel
theorem dX11_stateAt_107 : decode cX11_stateAt 107 = .ok (.aload_n 0, 1) := by decide +kernel
theorem dX11_stateAt_108 : decode cX11_stateAt 108 = .ok (.getfield 9, 3) := by decide +kernel
theorem dX11_stateAt_111 : decode cX11_stateAt 111 = .ok (.iload 5, 2) := by decide +kernel
theorem dX11_stateAt_113 : decode cX11_stateAt 113 = .ok (.iconst 2, 1) := by decide +kernel
theorem dX11_stateAt_114 : decode cX11_stateAt 114 = .ok (.iadd, 1) := by decide +kernel
theorem dX11_stateAt_115 : decode cX11_stateAt 115 = .ok (.iaload, 1) := by decide +kernel
theorem dX11_stateAt_116 : decode cX11_stateAt 116 = .ok (.goto 4, 3) := by decide +kernel
theorem dX11_stateAt_119 : decode cX11_stateAt 119 = .ok (.iload_n 3, 1) := by decide +kernel
theorem dX11_stateAt_120 : decode cX11_stateAt 120 = .ok (.istore_n 3, 1) := by decide +kernel
theorem dX11_stateAt_121 : decode cX11_stateAt 121 = .ok (.iinc 4 1, 3) := by decide +kernel
theorem dX11_stateAt_124 : decode cX11_stateAt 124 = .ok (.goto (-63), 3) := by decide +kernel
theorem dX11_stateAt_127 : decode cX11_stateAt 127 = .ok (.iload_n 3, 1) := by decide +kernel
theorem dX11_stateAt_128 : decode cX11_stateAt 128 = .ok (.ireturn, 1) := by decide +kernel
theorem dX11_crossed_0 : decode cX11_crossed 0 = .ok (.aload_n 0, 1) := by decide +kernel
theorem dX11_crossed_1 : decode cX11_crossed 1 = .ok (.iconst 0, 1) := by decide +kernel
theorem dX11_crossed_2 : decode cX11_crossed 2 = .ok (.putfield 77, 3) := by decide +kernel
theorem dX11_crossed_5 : decode cX11_crossed 5 = .ok (.iconst 0, 1) := by decide +kernel
theorem dX11_crossed_6 : decode cX11_crossed 6 = .ok (.istore_n 1, 1) := by decide +kernel
theorem dX11_crossed_7 : decode cX11_crossed 7 = .ok (.iconst 0, 1) := by decide +kernel
theorem dX11_crossed_8 : decode cX11_crossed 8 = .ok (.istore_n 2, 1) := by decide +kernel
theorem dX11_crossed_9 : decode cX11_crossed 9 = .ok (.iload_n 2, 1) := by decide +kernel
theorem dX11_crossed_10 : decode cX11_crossed 10 = .ok (.aload_n 0, 1) := by decide +kernel
theorem dX11_crossed_11 : decode cX11_crossed 11 = .ok (.getfield 9, 3) := by decide +kernel
theorem dX11_crossed_14 : decode cX11_crossed 14 = .ok (.iconst 4, 1) := by decide +kernel
theorem dX11_crossed_15 : decode cX11_crossed 15 = .ok (.iaload, 1) := by decide +kernel
theorem dX11_crossed_16 : decode cX11_crossed 16 = .ok (.if_icmp .ge 111, 3) := by decide +kernel
theorem dX11_crossed_19 : decode cX11_crossed 19 = .ok (.iload_n 2, 1) := by decide +kernel
theorem dX11_crossed_20 : decode cX11_crossed 20 = .ok (.iconst 1, 1) := by decide +kernel
theorem dX11_crossed_21 : decode cX11_crossed 21 = .ok (.iadd, 1) := by decide +kernel
theorem dX11_crossed_22 : decode cX11_crossed 22 = .ok (.istore_n 3, 1) := by decide +kernel
theorem dX11_crossed_23 : decode cX11_crossed 23 = .ok (.iload_n 3, 1) := by decide +kernel
theorem dX11_crossed_24 : decode cX11_crossed 24 = .ok (.aload_n 0, 1) := by decide +kernel
theorem dX11_crossed_25 : decode cX11_crossed 25 = .ok (.getfield 9, 3) := by decide +kernel
theorem dX11_crossed_28 : decode cX11_crossed 28 = .ok (.iconst 4, 1) := by decide +kernel
theorem dX11_crossed_29 : decode cX11_crossed 29 = .ok (.iaload, 1) := by decide +kernel
theorem dX11_crossed_30 : decode cX11_crossed 30 = .ok (.if_icmp .ge 91, 3) := by decide +kernel
theorem dX11_crossed_33 : decode cX11_crossed 33 = .ok (.aload_n 0, 1) := by decide +kernel
theorem dX11_crossed_34 : decode cX11_crossed 34 = .ok (.iload_n 2, 1) := by decide +kernel
theorem dX11_crossed_35 : decode cX11_crossed 35 = .ok (.iconst 5, 1) := by decide +kernel
theorem dX11_crossed_36 : decode cX11_crossed 36 = .ok (.invokevirtual 130, 3) := by decide +kernel
theorem dX11_crossed_39 : decode cX11_crossed 39 = .ok (.iconst (-1), 1) := by decide +kernel
theorem dX11_crossed_40 : decode cX11_crossed 40 = .ok (.if_icmp .eq 17, 3) := by decide +kernel
theorem dX11_crossed_43 : decode cX11_crossed 43 = .ok (.aload_n 0, 1) := by decide +kernel
theorem dX11_crossed_44 : decode cX11_crossed 44 = .ok (.iload_n 3, 1) := by decide +kernel
theorem dX11_crossed_45 : decode cX11_crossed 45 = .ok (.iconst 5, 1) := by decide +kernel
theorem dX11_crossed_46 : decode cX11_crossed 46 = .ok (.invokevirtual 130, 3) := by decide +kernel
theorem dX11_crossed_49 : decode cX11_crossed 49 = .ok (.iconst (-1), 1) := by decide +kernel
theorem dX11_crossed_50 : decode cX11_crossed 50 = .ok (.if_icmp .eq 7, 3) := by decide +kernel
theorem dX11_crossed_53 : decode cX11_crossed 53 = .ok (.iconst 1, 1) := by decide +kernel
theorem dX11_crossed_54 : decode cX11_crossed 54 = .ok (.goto 4, 3) := by decide +kernel
theorem dX11_crossed_57 : decode cX11_crossed 57 = .ok (.iconst 0, 1) := by decide +kernel
theorem dX11_crossed_58 : decode cX11_crossed 58 = .ok (.istore 4, 2) := by decide +kernel
theorem dX11_crossed_60 : decode cX11_crossed 60 = .ok (.aload_n 0, 1) := by decide +kernel
theorem dX11_crossed_61 : decode cX11_crossed 61 = .ok (.iload_n 2, 1) := by decide +kernel
theorem dX11_crossed_62 : decode cX11_crossed 62 = .ok (.iconst 0, 1) := by decide +kernel
theorem dX11_crossed_63 : decode cX11_crossed 63 = .ok (.invokevirtual 130, 3) := by decide +kernel
theorem dX11_crossed_66 : decode cX11_crossed 66 = .ok (.aload_n 0, 1) := by decide +kernel
theorem dX11_crossed_67 : decode cX11_crossed 67 = .ok (.iload_n 3, 1) := by decide +kernel
theorem dX11_crossed_68 : decode cX11_crossed 68 = .ok (.iconst 0, 1) := by decide +kernel
theorem dX11_crossed_69 : decode cX11_crossed 69 = .ok (.invokevirtual 130, 3) := by decide +kernel
theorem dX11_crossed_72 : decode cX11_crossed 72 = .ok (.if_icmp .ne 7, 3) := by decide +kernel
theorem dX11_crossed_75 : decode cX11_crossed 75 = .ok (.iconst 1, 1) := by decide +kernel
theorem dX11_crossed_76 : decode cX11_crossed 76 = .ok (.goto 4, 3) := by decide +kernel
theorem dX11_crossed_79 : decode cX11_crossed 79 = .ok (.iconst 0, 1) := by decide +kernel
theorem dX11_crossed_80 : decode cX11_crossed 80 = .ok (.istore 5, 2) := by decide +kernel
theorem dX11_crossed_82 : decode cX11_crossed 82 = .ok (.iload_n 1, 1) := by decide +kernel
theorem dX11_crossed_83 : decode cX11_crossed 83 = .ok (.iload 4, 2) := by decide +kernel
theorem dX11_crossed_85 : decode cX11_crossed 85 = .ok (.ifCond .eq 27, 3) := by decide +kernel
theorem dX11_crossed_88 : decode cX11_crossed 88 = .ok (.iload 5, 2) := by decide +kernel
theorem dX11_crossed_90 : decode cX11_crossed 90 = .ok (.ifCond .eq 22, 3) := by decide +kernel
theorem dX11_crossed_93 : decode cX11_crossed 93 = .ok (.aload_n 0, 1) := by decide +kernel
theorem dX11_crossed_94 : decode cX11_crossed 94 = .ok (.iload_n 3, 1) := by decide +kernel
theorem dX11_crossed_95 : decode cX11_crossed 95 = .ok (.iconst 5, 1) := by decide +kernel
theorem dX11_crossed_96 : decode cX11_crossed 96 = .ok (.invokevirtual 130, 3) := by decide +kernel
theorem dX11_crossed_99 : decode cX11_crossed 99 = .ok (.aload_n 0, 1) := by decide +kernel
theorem dX11_crossed_100 : decode cX11_crossed 100 = .ok (.iload_n 2, 1) := by decide +kernel
theorem dX11_crossed_101 : decode cX11_crossed 101 = .ok (.iconst 5, 1) := by decide +kernel
theorem dX11_crossed_102 : decode cX11_crossed 102 = .ok (.invokevirtual 130, 3) := by decide +kernel
theorem dX11_crossed_105 : decode cX11_crossed 105 = .ok (.if_icmp .ge 7, 3) := by decide +kernel
theorem dX11_crossed_108 : decode cX11_crossed 108 = .ok (.iconst 1, 1) := by decide +kernel
theorem dX11_crossed_109 : decode cX11_crossed 109 = .ok (.goto 4, 3) := by decide +kernel
theorem dX11_crossed_112 : decode cX11_crossed 112 = .ok (.iconst 0, 1) := by decide +kernel
theorem dX11_crossed_113 : decode cX11_crossed 113 = .ok (.iadd, 1) := by decide +kernel
theorem dX11_crossed_114 : decode cX11_crossed 114 = .ok (.istore_n 1, 1) := by decide +kernel
theorem dX11_crossed_115 : decode cX11_crossed 115 = .ok (.iinc 3 1, 3) := by decide +kernel
theorem dX11_crossed_118 : decode cX11_crossed 118 = .ok (.goto (-95), 3) := by decide +kernel
theorem dX11_crossed_121 : decode cX11_crossed 121 = .ok (.iinc 2 1, 3) := by decide +kernel
theorem dX11_crossed_124 : decode cX11_crossed 124 = .ok (.goto (-115), 3) := by decide +kernel
theorem dX11_crossed_127 : decode cX11_crossed 127 = .ok (.iload_n 1, 1) := by decide +kernel
theorem dX11_crossed_128 : decode cX11_crossed 128 = .ok (.ireturn, 1) := by decide +kernel
theorem dX11_isTarget_0 : decode cX11_isTarget 0 = .ok (.aload_n 0, 1) := by decide +kernel
theorem dX11_isTarget_1 : decode cX11_isTarget 1 = .ok (.aload_n 0, 1) := by decide +kernel
theorem dX11_isTarget_2 : decode cX11_isTarget 2 = .ok (.iload_n 1, 1) := by decide +kernel
theorem dX11_isTarget_3 : decode cX11_isTarget 3 = .ok (.invokevirtual 195, 3) := by decide +kernel
theorem dX11_isTarget_6 : decode cX11_isTarget 6 = .ok (.ifCond .eq 12, 3) := by decide +kernel
theorem dX11_isTarget_9 : decode cX11_isTarget 9 = .ok (.aload_n 0, 1) := by decide +kernel
theorem dX11_isTarget_10 : decode cX11_isTarget 10 = .ok (.iload_n 2, 1) := by decide +kernel
theorem dX11_isTarget_11 : decode cX11_isTarget 11 = .ok (.iload_n 3, 1) := by decide +kernel
theorem dX11_isTarget_12 : decode cX11_isTarget 12 = .ok (.invokevirtual 94, 3) := by decide +kernel
theorem dX11_isTarget_15 : decode cX11_isTarget 15 = .ok (.ifCond .ne 7, 3) := by decide +kernel
theorem dX11_isTarget_18 : decode cX11_isTarget 18 = .ok (.iconst 1, 1) := by decide +kernel
theorem dX11_isTarget_19 : decode cX11_isTarget 19 = .ok (.goto 17, 3) := by decide +kernel
theorem dX11_isTarget_22 : decode cX11_isTarget 22 = .ok (.aload_n 0, 1) := by decide +kernel
theorem dX11_isTarget_23 : decode cX11_isTarget 23 = .ok (.iload_n 2, 1) := by decide +kernel
theorem dX11_isTarget_24 : decode cX11_isTarget 24 = .ok (.iload_n 3, 1) := by decide +kernel
theorem dX11_isTarget_25 : decode cX11_isTarget 25 = .ok (.invokevirtual 101, 3) := by decide +kernel
theorem dX11_isTarget_28 : decode cX11_isTarget 28 = .ok (.ifCond .eq 7, 3) := by decide +kernel
theorem dX11_isTarget_31 : decode cX11_isTarget 31 = .ok (.iconst 0, 1) := by decide +kernel
theorem dX11_isTarget_32 : decode cX11_isTarget 32 = .ok (.goto 4, 3) := by decide +kernel
theorem dX11_isTarget_35 : decode cX11_isTarget 35 = .ok (.iconst 2, 1) := by decide +kernel
theorem dX11_isTarget_36 : decode cX11_isTarget 36 = .ok (.putfield 77, 3) := by decide +kernel
theorem dX11_isTarget_39 : decode cX11_isTarget 39 = .ok (.aload_n 0, 1) := by decide +kernel
theorem dX11_isTarget_40 : decode cX11_isTarget 40 = .ok (.getfield 77, 3) := by decide +kernel
theorem dX11_isTarget_43 : decode cX11_isTarget 43 = .ok (.ifCond .ne 7, 3) := by decide +kernel
theorem dX11_isTarget_46 : decode cX11_isTarget 46 = .ok (.iconst 1, 1) := by decide +kernel
theorem dX11_isTarget_47 : decode cX11_isTarget 47 = .ok (.goto 4, 3) := by decide +kernel
theorem dX11_isTarget_50 : decode cX11_isTarget 50 = .ok (.iconst 0, 1) := by decide +kernel
theorem dX11_isTarget_51 : decode cX11_isTarget 51 = .ok (.ireturn, 1) := by decide +kernel
theorem dX11_begin_0 : decode cX11_begin 0 = .ok (.aload_n 0, 1) := by decide +kernel
theorem dX11_begin_1 : decode cX11_begin 1 = .ok (.getfield 9, 3) := by decide +kernel
theorem dX11_begin_4 : decode cX11_begin 4 = .ok (.iconst 0, 1) := by decide +kernel
theorem dX11_begin_5 : decode cX11_begin 5 = .ok (.aload_n 0, 1) := by decide +kernel
theorem dX11_begin_6 : decode cX11_begin 6 = .ok (.getfield 16, 3) := by decide +kernel
theorem dX11_begin_9 : decode cX11_begin 9 = .ok (.iconst 0, 1) := by decide +kernel
theorem dX11_begin_10 : decode cX11_begin 10 = .ok (.invokestatic 213, 3) := by decide +kernel
theorem dX11_begin_13 : decode cX11_begin 13 = .ok (.return_, 1) := by decide +kernel
theorem dX11_end_0 : decode cX11_end 0 = .ok (.aload_n 0, 1) := by decide +kernel
theorem dX11_end_1 : decode cX11_end 1 = .ok (.getfield 16, 3) := by decide +kernel
theorem dX11_end_4 : decode cX11_end 4 = .ok (.iconst 0, 1) := by decide +kernel
theorem dX11_end_5 : decode cX11_end 5 = .ok (.aload_n 0, 1) := by decide +kernel
theorem dX11_end_6 : decode cX11_end 6 = .ok (.getfield 9, 3) := by decide +kernel
theorem dX11_end_9 : decode cX11_end 9 = .ok (.iconst 0, 1) := by decide +kernel
theorem dX11_end_10 : decode cX11_end 10 = .ok (.invokestatic 213, 3) := by decide +kernel
theorem dX11_end_13 : decode cX11_end 13 = .ok (.return_, 1) := by decide +kernel
theorem dX11_wouldBe_0 : decode cX11_wouldBe 0 = .ok (.aload_n 0, 1) := by decide +kernel
theorem dX11_wouldBe_1 : decode cX11_wouldBe 1 = .ok (.iload_n 1, 1) := by decide +kernel
theorem dX11_wouldBe_2 : decode cX11_wouldBe 2 = .ok (.iload_n 2, 1) := by decide +kernel
theorem dX11_wouldBe_3 : decode cX11_wouldBe 3 = .ok (.iload_n 3, 1) := by decide +kernel
theorem dX11_wouldBe_4 : decode cX11_wouldBe 4 = .ok (.invokevirtual 217, 3) := by decide +kernel
theorem dX11_wouldBe_7 : decode cX11_wouldBe 7 = .ok (.istore 5, 2) := by decide +kernel
theorem dX11_wouldBe_9 : decode cX11_wouldBe 9 = .ok (.aload_n 0, 1) := by decide +kernel
theorem dX11_wouldBe_10 : decode cX11_wouldBe 10 = .ok (.iload 5, 2) := by decide +kernel
theorem dX11_wouldBe_12 : decode cX11_wouldBe 12 = .ok (.ifCond .eq 18, 3) := by decide +kernel
theorem dX11_wouldBe_15 : decode cX11_wouldBe 15 = .ok (.iload 4, 2) := by decide +kernel
theorem dX11_wouldBe_17 : decode cX11_wouldBe 17 = .ok (.iconst 0, 1) := by decide +kernel
theorem dX11_wouldBe_18 : decode cX11_wouldBe 18 = .ok (.bipush 60, 2) := by decide +kernel
theorem dX11_wouldBe_20 : decode cX11_wouldBe 20 = .ok (.invokestatic 90, 3) := by decide +kernel
theorem dX11_wouldBe_23 : decode cX11_wouldBe 23 = .ok (.ifCond .ne 7, 3) := by decide +kernel
theorem dX11_wouldBe_26 : decode cX11_wouldBe 26 = .ok (.iconst 2, 1) := by decide +kernel
theorem dX11_wouldBe_27 : decode cX11_wouldBe 27 = .ok (.goto 7, 3) := by decide +kernel
theorem dX11_wouldBe_30 : decode cX11_wouldBe 30 = .ok (.aload_n 0, 1) := by decide +kernel
theorem dX11_wouldBe_31 : decode cX11_wouldBe 31 = .ok (.getfield 77, 3) := by decide +kernel
theorem dX11_wouldBe_34 : decode cX11_wouldBe 34 = .ok (.putfield 77, 3) := by decide +kernel
theorem dX11_wouldBe_37 : decode cX11_wouldBe 37 = .ok (.aload_n 0, 1) := by decide +kernel
theorem dX11_wouldBe_38 : decode cX11_wouldBe 38 = .ok (.getfield 77, 3) := by decide +kernel
theorem dX11_wouldBe_41 : decode cX11_wouldBe 41 = .ok (.ifCond .eq 5, 3) := by decide +kernel
theorem dX11_wouldBe_44 : decode cX11_wouldBe 44 = .ok (.iconst 0, 1) := by decide +kernel
theorem dX11_wouldBe_45 : decode cX11_wouldBe 45 = .ok (.ireturn, 1) := by decide +kernel
theorem dX11_wouldBe_46 : decode cX11_wouldBe 46 = .ok (.aload_n 0, 1) := by decide +kernel
theorem dX11_wouldBe_47 : decode cX11_wouldBe 47 = .ok (.getfield 9, 3) := by decide +kernel
theorem dX11_wouldBe_50 : decode cX11_wouldBe 50 = .ok (.iconst 4, 1) := by decide +kernel
theorem dX11_wouldBe_51 : decode cX11_wouldBe 51 = .ok (.iaload, 1) := by decide +kernel
theorem dX11_wouldBe_52 : decode cX11_wouldBe 52 = .ok (.istore 6, 2) := by decide +kernel
theorem dX11_wouldBe_54 : decode cX11_wouldBe 54 = .ok (.iload 6, 2) := by decide +kernel
theorem dX11_wouldBe_56 : decode cX11_wouldBe 56 = .ok (.bipush 40, 2) := by decide +kernel
theorem dX11_wouldBe_58 : decode cX11_wouldBe 58 = .ok (.if_icmp .ne 5, 3) := by decide +kernel
theorem dX11_wouldBe_61 : decode cX11_wouldBe 61 = .ok (.iconst (-1), 1) := by decide +kernel
theorem dX11_wouldBe_62 : decode cX11_wouldBe 62 = .ok (.ireturn, 1) := by decide +kernel
theorem dX11_wouldBe_63 : decode cX11_wouldBe 63 = .ok (.aload_n 0, 1) := by decide +kernel
theorem dX11_wouldBe_64 : decode cX11_wouldBe 64 = .ok (.invokevirtual 220, 3) := by decide +kernel
theorem dX11_wouldBe_67 : decode cX11_wouldBe 67 = .ok (.aload_n 0, 1) := by decide +kernel
theorem dX11_wouldBe_68 : decode cX11_wouldBe 68 = .ok (.iload_n 1, 1) := by decide +kernel
theorem dX11_wouldBe_69 : decode cX11_wouldBe 69 = .ok (.iload_n 2, 1) := by decide +kernel
theorem dX11_wouldBe_70 : decode cX11_wouldBe 70 = .ok (.iload_n 3, 1) := by decide +kernel
theorem dX11_wouldBe_71 : decode cX11_wouldBe 71 = .ok (.invokevirtual 167, 3) := by decide +kernel
theorem dX11_wouldBe_74 : decode cX11_wouldBe 74 = .ok (.iconst 0, 1) := by decide +kernel
theorem dX11_wouldBe_75 : decode cX11_wouldBe 75 = .ok (.istore 7, 2) := by decide +kernel
theorem dX11_wouldBe_77 : decode cX11_wouldBe 77 = .ok (.iload 7, 2) := by decide +kernel
theorem dX11_wouldBe_79 : decode cX11_wouldBe 79 = .ok (.iload 4, 2) := by decide +kernel
theorem dX11_wouldBe_81 : decode cX11_wouldBe 81 = .ok (.if_icmp .ge 13, 3) := by decide +kernel
theorem dX11_wouldBe_84 : decode cX11_wouldBe 84 = .ok (.aload_n 0, 1) := by decide +kernel
theorem dX11_wouldBe_85 : decode cX11_wouldBe 85 = .ok (.invokevirtual 223, 3) := by decide +kernel
theorem dX11_wouldBe_88 : decode cX11_wouldBe 88 = .ok (.iinc 7 1, 3) := by decide +kernel
theorem dX11_wouldBe_91 : decode cX11_wouldBe 91 = .ok (.goto (-14), 3) := by decide +kernel
theorem dX11_wouldBe_94 : decode cX11_wouldBe 94 = .ok (.aload_n 0, 1) := by decide +kernel
theorem dX11_wouldBe_95 : decode cX11_wouldBe 95 = .ok (.iload 6, 2) := by decide +kernel
theorem dX11_wouldBe_97 : decode cX11_wouldBe 97 = .ok (.iconst 3, 1) := by decide +kernel
theorem dX11_wouldBe_98 : decode cX11_wouldBe 98 = .ok (.invokevirtual 130, 3) := by decide +kernel
theorem dX11_wouldBe_101 : decode cX11_wouldBe 101 = .ok (.istore 7, 2) := by decide +kernel
theorem dX11_wouldBe_103 : decode cX11_wouldBe 103 = .ok (.aload_n 0, 1) := by decide +kernel
theorem dX11_wouldBe_104 : decode cX11_wouldBe 104 = .ok (.invokevirtual 226, 3) := by decide +kernel
theorem dX11_wouldBe_107 : decode cX11_wouldBe 107 = .ok (.iload 7, 2) := by decide +kernel
theorem dX11_wouldBe_109 : decode cX11_wouldBe 109 = .ok (.ireturn, 1) := by decide +kernel
theorem dX11_arrivalOf_0 : decode cX11_arrivalOf 0 = .ok (.aload_n 0, 1) := by decide +kernel
theorem dX11_arrivalOf_1 : decode cX11_arrivalOf 1 = .ok (.getfield 9, 3) := by decide +kernel
theorem dX11_arrivalOf_4 : decode cX11_arrivalOf 4 = .ok (.iconst 4, 1) := by decide +kernel
theorem dX11_arrivalOf_5 : decode cX11_arrivalOf 5 = .ok (.iaload, 1) := by decide +kernel
theorem dX11_arrivalOf_6 : decode cX11_arrivalOf 6 = .ok (.istore 4, 2) := by decide +kernel
theorem dX11_arrivalOf_8 : decode cX11_arrivalOf 8 = .ok (.iload 4, 2) := by decide +kernel
theorem dX11_arrivalOf_10 : decode cX11_arrivalOf 10 = .ok (.bipush 40, 2) := by decide +kernel
theorem dX11_arrivalOf_12 : decode cX11_arrivalOf 12 = .ok (.if_icmp .ne 5, 3) := by decide +kernel
theorem dX11_arrivalOf_15 : decode cX11_arrivalOf 15 = .ok (.iconst (-1), 1) := by decide +kernel
theorem dX11_arrivalOf_16 : decode cX11_arrivalOf 16 = .ok (.ireturn, 1) := by decide +kernel
theorem dX11_arrivalOf_17 : decode cX11_arrivalOf 17 = .ok (.aload_n 0, 1) := by decide +kernel
theorem dX11_arrivalOf_18 : decode cX11_arrivalOf 18 = .ok (.iload_n 1, 1) := by decide +kernel
theorem dX11_arrivalOf_19 : decode cX11_arrivalOf 19 = .ok (.iload_n 2, 1) := by decide +kernel
theorem dX11_arrivalOf_20 : decode cX11_arrivalOf 20 = .ok (.iload_n 3, 1) := by decide +kernel
theorem dX11_arrivalOf_21 : decode cX11_arrivalOf 21 = .ok (.invokevirtual 167, 3) := by decide +kernel
theorem dX11_arrivalOf_24 : decode cX11_arrivalOf 24 = .ok (.aload_n 0, 1) := by decide +kernel
theorem dX11_arrivalOf_25 : decode cX11_arrivalOf 25 = .ok (.iload 4, 2) := by decide +kernel
theorem dX11_arrivalOf_27 : decode cX11_arrivalOf 27 = .ok (.iconst 3, 1) := by decide +kernel
theorem dX11_arrivalOf_28 : decode cX11_arrivalOf 28 = .ok (.invokevirtual 130, 3) := by decide +kernel
theorem dX11_arrivalOf_31 : decode cX11_arrivalOf 31 = .ok (.ifCond .ne 10, 3) := by decide +kernel
theorem dX11_arrivalOf_34 : decode cX11_arrivalOf 34 = .ok (.aload_n 0, 1) := by decide +kernel
theorem dX11_arrivalOf_35 : decode cX11_arrivalOf 35 = .ok (.invokevirtual 223, 3) := by decide +kernel
theorem dX11_arrivalOf_38 : decode cX11_arrivalOf 38 = .ok (.goto (-14), 3) := by decide +kernel
theorem dX11_arrivalOf_41 : decode cX11_arrivalOf 41 = .ok (.aload_n 0, 1) := by decide +kernel
theorem dX11_arrivalOf_42 : decode cX11_arrivalOf 42 = .ok (.iload 4, 2) := by decide +kernel
theorem dX11_arrivalOf_44 : decode cX11_arrivalOf 44 = .ok (.iconst 5, 1) := by decide +kernel
theorem dX11_arrivalOf_45 : decode cX11_arrivalOf 45 = .ok (.invokevirtual 130, 3) := by decide +kernel
theorem dX11_arrivalOf_48 : decode cX11_arrivalOf 48 = .ok (.ireturn, 1) := by decide +kernel
theorem dX11_wouldArrive_0 : decode cX11_wouldArrive 0 = .ok (.aload_n 0, 1) := by decide +kernel
theorem dX11_wouldArrive_1 : decode cX11_wouldArrive 1 = .ok (.iload_n 1, 1) := by decide +kernel
theorem dX11_wouldArrive_2 : decode cX11_wouldArrive 2 = .ok (.iload_n 2, 1) := by decide +kernel
theorem dX11_wouldArrive_3 : decode cX11_wouldArrive 3 = .ok (.iload_n 3, 1) := by decide +kernel
theorem dX11_wouldArrive_4 : decode cX11_wouldArrive 4 = .ok (.invokevirtual 217, 3) := by decide +kernel
theorem dX11_wouldArrive_7 : decode cX11_wouldArrive 7 = .ok (.ifCond .ne 5, 3) := by decide +kernel
theorem dX11_wouldArrive_10 : decode cX11_wouldArrive 10 = .ok (.iconst 0, 1) := by decide +kernel
theorem dX11_wouldArrive_11 : decode cX11_wouldArrive 11 = .ok (.ireturn, 1) := by decide +kernel
theorem dX11_wouldArrive_12 : decode cX11_wouldArrive 12 = .ok (.aload_n 0, 1) := by decide +kernel
theorem dX11_wouldArrive_13 : decode cX11_wouldArrive 13 = .ok (.invokevirtual 220, 3) := by decide +kernel
theorem dX11_wouldArrive_16 : decode cX11_wouldArrive 16 = .ok (.aload_n 0, 1) := by decide +kernel
theorem dX11_wouldArrive_17 : decode cX11_wouldArrive 17 = .ok (.iload_n 1, 1) := by decide +kernel
theorem dX11_wouldArrive_18 : decode cX11_wouldArrive 18 = .ok (.iload_n 2, 1) := by decide +kernel
theorem dX11_wouldArrive_19 : decode cX11_wouldArrive 19 = .ok (.iload_n 3, 1) := by decide +kernel
theorem dX11_wouldArrive_20 : decode cX11_wouldArrive 20 = .ok (.invokevirtual 229, 3) := by decide +kernel
theorem dX11_wouldArrive_23 : decode cX11_wouldArrive 23 = .ok (.istore 4, 2) := by decide +kernel
theorem dX11_wouldArrive_25 : decode cX11_wouldArrive 25 = .ok (.aload_n 0, 1) := by decide +kernel
theorem dX11_wouldArrive_26 : decode cX11_wouldArrive 26 = .ok (.invokevirtual 226, 3) := by decide +kernel
theorem dX11_wouldArrive_29 : decode cX11_wouldArrive 29 = .ok (.iload 4, 2) := by decide +kernel
theorem dX11_wouldArrive_31 : decode cX11_wouldArrive 31 = .ok (.ireturn, 1) := by decide +kernel
theorem dX11_bestDelay_0 : decode cX11_bestDelay 0 = .ok (.aload_n 0, 1) := by decide +kernel
theorem dX11_bestDelay_1 : decode cX11_bestDelay 1 = .ok (.iload_n 1, 1) := by decide +kernel
theorem dX11_bestDelay_2 : decode cX11_bestDelay 2 = .ok (.iload_n 2, 1) := by decide +kernel
theorem dX11_bestDelay_3 : decode cX11_bestDelay 3 = .ok (.iload_n 3, 1) := by decide +kernel
theorem dX11_bestDelay_4 : decode cX11_bestDelay 4 = .ok (.invokevirtual 217, 3) := by decide +kernel
theorem dX11_bestDelay_7 : decode cX11_bestDelay 7 = .ok (.ifCond .ne 5, 3) := by decide +kernel
theorem dX11_bestDelay_10 : decode cX11_bestDelay 10 = .ok (.iconst 0, 1) := by decide +kernel
theorem dX11_bestDelay_11 : decode cX11_bestDelay 11 = .ok (.ireturn, 1) := by decide +kernel
theorem dX11_bestDelay_12 : decode cX11_bestDelay 12 = .ok (.iconst 0, 1) := by decide +kernel
theorem dX11_bestDelay_13 : decode cX11_bestDelay 13 = .ok (.istore 4, 2) := by decide +kernel
theorem dX11_bestDelay_15 : decode cX11_bestDelay 15 = .ok (.iload 4, 2) := by decide +kernel
theorem dX11_bestDelay_17 : decode cX11_bestDelay 17 = .ok (.bipush 15, 2) := by decide +kernel
theorem dX11_bestDelay_19 : decode cX11_bestDelay 19 = .ok (.if_icmp .gt 55, 3) := by decide +kernel
theorem dX11_bestDelay_22 : decode cX11_bestDelay 22 = .ok (.aload_n 0, 1) := by decide +kernel
theorem dX11_bestDelay_23 : decode cX11_bestDelay 23 = .ok (.invokevirtual 220, 3) := by decide +kernel
theorem dX11_bestDelay_26 : decode cX11_bestDelay 26 = .ok (.iconst 0, 1) := by decide +kernel
theorem dX11_bestDelay_27 : decode cX11_bestDelay 27 = .ok (.istore 5, 2) := by decide +kernel
theorem dX11_bestDelay_29 : decode cX11_bestDelay 29 = .ok (.iload 5, 2) := by decide +kernel
theorem dX11_bestDelay_31 : decode cX11_bestDelay 31 = .ok (.iload 4, 2) := by decide +kernel
theorem dX11_bestDelay_33 : decode cX11_bestDelay 33 = .ok (.if_icmp .ge 13, 3) := by decide +kernel
theorem dX11_bestDelay_36 : decode cX11_bestDelay 36 = .ok (.aload_n 0, 1) := by decide +kernel
theorem dX11_bestDelay_37 : decode cX11_bestDelay 37 = .ok (.invokevirtual 223, 3) := by decide +kernel
theorem dX11_bestDelay_40 : decode cX11_bestDelay 40 = .ok (.iinc 5 1, 3) := by decide +kernel
theorem dX11_bestDelay_43 : decode cX11_bestDelay 43 = .ok (.goto (-14), 3) := by decide +kernel
theorem dX11_bestDelay_46 : decode cX11_bestDelay 46 = .ok (.aload_n 0, 1) := by decide +kernel
theorem dX11_bestDelay_47 : decode cX11_bestDelay 47 = .ok (.iload_n 1, 1) := by decide +kernel
theorem dX11_bestDelay_48 : decode cX11_bestDelay 48 = .ok (.iload_n 2, 1) := by decide +kernel
theorem dX11_bestDelay_49 : decode cX11_bestDelay 49 = .ok (.iload_n 3, 1) := by decide +kernel
theorem dX11_bestDelay_50 : decode cX11_bestDelay 50 = .ok (.invokevirtual 229, 3) := by decide +kernel
theorem dX11_bestDelay_53 : decode cX11_bestDelay 53 = .ok (.istore 5, 2) := by decide +kernel
theorem dX11_bestDelay_55 : decode cX11_bestDelay 55 = .ok (.aload_n 0, 1) := by decide +kernel
theorem dX11_bestDelay_56 : decode cX11_bestDelay 56 = .ok (.invokevirtual 226, 3) := by decide +kernel
theorem dX11_bestDelay_59 : decode cX11_bestDelay 59 = .ok (.iload 5, 2) := by decide +kernel
theorem dX11_bestDelay_61 : decode cX11_bestDelay 61 = .ok (.iconst (-1), 1) := by decide +kernel
theorem dX11_bestDelay_62 : decode cX11_bestDelay 62 = .ok (.if_icmp .eq 6, 3) := by decide +kernel
theorem dX11_bestDelay_65 : decode cX11_bestDelay 65 = .ok (.iload 4, 2) := by decide +kernel
theorem dX11_bestDelay_67 : decode cX11_bestDelay 67 = .ok (.ireturn, 1) := by decide +kernel
theorem dX11_bestDelay_68 : decode cX11_bestDelay 68 = .ok (.iinc 4 1, 3) := by decide +kernel
theorem dX11_bestDelay_71 : decode cX11_bestDelay 71 = .ok (.goto (-56), 3) := by decide +kernel
theorem dX11_bestDelay_74 : decode cX11_bestDelay 74 = .ok (.iconst (-1), 1) := by decide +kernel
theorem dX11_bestDelay_75 : decode cX11_bestDelay 75 = .ok (.ireturn, 1) := by decide +kernel
theorem dX11_failing_0 : decode cX11_failing 0 = .ok (.aload_n 0, 1) := by decide +kernel
theorem dX11_failing_1 : decode cX11_failing 1 = .ok (.iload_n 1, 1) := by decide +kernel
theorem dX11_failing_2 : decode cX11_failing 2 = .ok (.iconst 0, 1) := by decide +kernel
theorem dX11_failing_3 : decode cX11_failing 3 = .ok (.bipush 60, 2) := by decide +kernel
theorem dX11_failing_5 : decode cX11_failing 5 = .ok (.invokestatic 90, 3) := by decide +kernel
theorem dX11_failing_8 : decode cX11_failing 8 = .ok (.ifCond .eq 7, 3) := by decide +kernel
theorem dX11_failing_11 : decode cX11_failing 11 = .ok (.iconst 0, 1) := by decide +kernel
theorem dX11_failing_12 : decode cX11_failing 12 = .ok (.goto 4, 3) := by decide +kernel
theorem dX11_failing_15 : decode cX11_failing 15 = .ok (.iconst 1, 1) := by decide +kernel
theorem dX11_failing_16 : decode cX11_failing 16 = .ok (.putfield 77, 3) := by decide +kernel
theorem dX11_failing_19 : decode cX11_failing 19 = .ok (.aload_n 0, 1) := by decide +kernel
theorem dX11_failing_20 : decode cX11_failing 20 = .ok (.getfield 77, 3) := by decide +kernel
theorem dX11_failing_23 : decode cX11_failing 23 = .ok (.ifCond .eq 5, 3) := by decide +kernel
theorem dX11_failing_26 : decode cX11_failing 26 = .ok (.iconst 0, 1) := by decide +kernel
theorem dX11_failing_27 : decode cX11_failing 27 = .ok (.ireturn, 1) := by decide +kernel
theorem dX11_failing_28 : decode cX11_failing 28 = .ok (.aload_n 0, 1) := by decide +kernel
theorem dX11_failing_29 : decode cX11_failing 29 = .ok (.invokevirtual 220, 3) := by decide +kernel
theorem dX11_failing_32 : decode cX11_failing 32 = .ok (.iconst 0, 1) := by decide +kernel
theorem dX11_failing_33 : decode cX11_failing 33 = .ok (.istore_n 2, 1) := by decide +kernel
theorem dX11_failing_34 : decode cX11_failing 34 = .ok (.iload_n 2, 1) := by decide +kernel
theorem dX11_failing_35 : decode cX11_failing 35 = .ok (.iload_n 1, 1) := by decide +kernel
theorem dX11_failing_36 : decode cX11_failing 36 = .ok (.if_icmp .ge 13, 3) := by decide +kernel
theorem dX11_failing_39 : decode cX11_failing 39 = .ok (.aload_n 0, 1) := by decide +kernel
theorem dX11_failing_40 : decode cX11_failing 40 = .ok (.invokevirtual 223, 3) := by decide +kernel
theorem dX11_failing_43 : decode cX11_failing 43 = .ok (.iinc 2 1, 3) := by decide +kernel
theorem dX11_failing_46 : decode cX11_failing 46 = .ok (.goto (-12), 3) := by decide +kernel
theorem dX11_failing_49 : decode cX11_failing 49 = .ok (.iconst 0, 1) := by decide +kernel
theorem dX11_failing_50 : decode cX11_failing 50 = .ok (.istore_n 2, 1) := by decide +kernel
theorem dX11_failing_51 : decode cX11_failing 51 = .ok (.iconst 0, 1) := by decide +kernel
theorem dX11_failing_52 : decode cX11_failing 52 = .ok (.istore_n 3, 1) := by decide +kernel
theorem dX11_failing_53 : decode cX11_failing 53 = .ok (.iload_n 3, 1) := by decide +kernel
theorem dX11_failing_54 : decode cX11_failing 54 = .ok (.aload_n 0, 1) := by decide +kernel
theorem dX11_failing_55 : decode cX11_failing 55 = .ok (.getfield 16, 3) := by decide +kernel
theorem dX11_failing_58 : decode cX11_failing 58 = .ok (.iconst 4, 1) := by decide +kernel
theorem dX11_failing_59 : decode cX11_failing 59 = .ok (.iaload, 1) := by decide +kernel
theorem dX11_failing_60 : decode cX11_failing 60 = .ok (.if_icmp .ge 50, 3) := by decide +kernel
theorem dX11_failing_63 : decode cX11_failing 63 = .ok (.aload_n 0, 1) := by decide +kernel
theorem dX11_failing_64 : decode cX11_failing 64 = .ok (.iload_n 3, 1) := by decide +kernel
theorem dX11_failing_65 : decode cX11_failing 65 = .ok (.iconst 3, 1) := by decide +kernel
theorem dX11_failing_66 : decode cX11_failing 66 = .ok (.invokevirtual 130, 3) := by decide +kernel
theorem dX11_failing_69 : decode cX11_failing 69 = .ok (.istore 4, 2) := by decide +kernel
theorem dX11_failing_71 : decode cX11_failing 71 = .ok (.iload_n 2, 1) := by decide +kernel
theorem dX11_failing_72 : decode cX11_failing 72 = .ok (.aload_n 0, 1) := by decide +kernel
theorem dX11_failing_73 : decode cX11_failing 73 = .ok (.getfield 16, 3) := by decide +kernel
theorem dX11_failing_76 : decode cX11_failing 76 = .ok (.iload_n 3, 1) := by decide +kernel
theorem dX11_failing_77 : decode cX11_failing 77 = .ok (.iconst 3, 1) := by decide +kernel
theorem dX11_failing_78 : decode cX11_failing 78 = .ok (.invokestatic 87, 3) := by decide +kernel
theorem dX11_failing_81 : decode cX11_failing 81 = .ok (.iaload, 1) := by decide +kernel
theorem dX11_failing_82 : decode cX11_failing 82 = .ok (.ifCond .ne 19, 3) := by decide +kernel
theorem dX11_failing_85 : decode cX11_failing 85 = .ok (.iload 4, 2) := by decide +kernel
theorem dX11_failing_87 : decode cX11_failing 87 = .ok (.iconst 4, 1) := by decide +kernel
theorem dX11_failing_88 : decode cX11_failing 88 = .ok (.if_icmp .eq 9, 3) := by decide +kernel
theorem dX11_failing_91 : decode cX11_failing 91 = .ok (.iload 4, 2) := by decide +kernel
theorem dX11_failing_93 : decode cX11_failing 93 = .ok (.iconst 5, 1) := by decide +kernel
theorem dX11_failing_94 : decode cX11_failing 94 = .ok (.if_icmp .ne 7, 3) := by decide +kernel
theorem dX11_failing_97 : decode cX11_failing 97 = .ok (.iconst 1, 1) := by decide +kernel
theorem dX11_failing_98 : decode cX11_failing 98 = .ok (.goto 4, 3) := by decide +kernel
theorem dX11_failing_101 : decode cX11_failing 101 = .ok (.iconst 0, 1) := by decide +kernel
theorem dX11_failing_102 : decode cX11_failing 102 = .ok (.iadd, 1) := by decide +kernel
theorem dX11_failing_103 : decode cX11_failing 103 = .ok (.istore_n 2, 1) := by decide +kernel
theorem dX11_failing_104 : decode cX11_failing 104 = .ok (.iinc 3 1, 3) := by decide +kernel
theorem dX11_failing_107 : decode cX11_failing 107 = .ok (.goto (-54), 3) := by decide +kernel
theorem dX11_failing_110 : decode cX11_failing 110 = .ok (.aload_n 0, 1) := by decide +kernel
theorem dX11_failing_111 : decode cX11_failing 111 = .ok (.invokevirtual 226, 3) := by decide +kernel
theorem dX11_failing_114 : decode cX11_failing 114 = .ok (.iload_n 2, 1) := by decide +kernel
theorem dX11_failing_115 : decode cX11_failing 115 = .ok (.ireturn, 1) := by decide +kernel
theorem dX11_meanDelay_0 : decode cX11_meanDelay 0 = .ok (.aload_n 0, 1) := by decide +kernel
theorem dX11_meanDelay_1 : decode cX11_meanDelay 1 = .ok (.iconst 0, 1) := by decide +kernel
theorem dX11_meanDelay_2 : decode cX11_meanDelay 2 = .ok (.putfield 77, 3) := by decide +kernel
theorem dX11_meanDelay_5 : decode cX11_meanDelay 5 = .ok (.iconst 0, 1) := by decide +kernel
theorem dX11_meanDelay_6 : decode cX11_meanDelay 6 = .ok (.istore_n 1, 1) := by decide +kernel
theorem dX11_meanDelay_7 : decode cX11_meanDelay 7 = .ok (.iconst 0, 1) := by decide +kernel
theorem dX11_meanDelay_8 : decode cX11_meanDelay 8 = .ok (.istore_n 2, 1) := by decide +kernel
theorem dX11_meanDelay_9 : decode cX11_meanDelay 9 = .ok (.iconst 0, 1) := by decide +kernel
theorem dX11_meanDelay_10 : decode cX11_meanDelay 10 = .ok (.istore_n 3, 1) := by decide +kernel
theorem dX11_meanDelay_11 : decode cX11_meanDelay 11 = .ok (.iload_n 3, 1) := by decide +kernel
theorem dX11_meanDelay_12 : decode cX11_meanDelay 12 = .ok (.aload_n 0, 1) := by decide +kernel
theorem dX11_meanDelay_13 : decode cX11_meanDelay 13 = .ok (.getfield 9, 3) := by decide +kernel
theorem dX11_meanDelay_16 : decode cX11_meanDelay 16 = .ok (.iconst 4, 1) := by decide +kernel
theorem dX11_meanDelay_17 : decode cX11_meanDelay 17 = .ok (.iaload, 1) := by decide +kernel
theorem dX11_meanDelay_18 : decode cX11_meanDelay 18 = .ok (.if_icmp .ge 64, 3) := by decide +kernel
theorem dX11_meanDelay_21 : decode cX11_meanDelay 21 = .ok (.aload_n 0, 1) := by decide +kernel
theorem dX11_meanDelay_22 : decode cX11_meanDelay 22 = .ok (.iload_n 3, 1) := by decide +kernel
theorem dX11_meanDelay_23 : decode cX11_meanDelay 23 = .ok (.iconst 5, 1) := by decide +kernel
theorem dX11_meanDelay_24 : decode cX11_meanDelay 24 = .ok (.invokevirtual 130, 3) := by decide +kernel
theorem dX11_meanDelay_27 : decode cX11_meanDelay 27 = .ok (.iconst (-1), 1) := by decide +kernel
theorem dX11_meanDelay_28 : decode cX11_meanDelay 28 = .ok (.if_icmp .eq 7, 3) := by decide +kernel
theorem dX11_meanDelay_31 : decode cX11_meanDelay 31 = .ok (.iconst 1, 1) := by decide +kernel
theorem dX11_meanDelay_32 : decode cX11_meanDelay 32 = .ok (.goto 4, 3) := by decide +kernel
theorem dX11_meanDelay_35 : decode cX11_meanDelay 35 = .ok (.iconst 0, 1) := by decide +kernel
theorem dX11_meanDelay_36 : decode cX11_meanDelay 36 = .ok (.istore 4, 2) := by decide +kernel
theorem dX11_meanDelay_38 : decode cX11_meanDelay 38 = .ok (.iload_n 1, 1) := by decide +kernel
theorem dX11_meanDelay_39 : decode cX11_meanDelay 39 = .ok (.iload 4, 2) := by decide +kernel
theorem dX11_meanDelay_41 : decode cX11_meanDelay 41 = .ok (.ifCond .eq 19, 3) := by decide +kernel
theorem dX11_meanDelay_44 : decode cX11_meanDelay 44 = .ok (.aload_n 0, 1) := by decide +kernel
theorem dX11_meanDelay_45 : decode cX11_meanDelay 45 = .ok (.iload_n 3, 1) := by decide +kernel
theorem dX11_meanDelay_46 : decode cX11_meanDelay 46 = .ok (.iconst 5, 1) := by decide +kernel
theorem dX11_meanDelay_47 : decode cX11_meanDelay 47 = .ok (.invokevirtual 130, 3) := by decide +kernel
theorem dX11_meanDelay_50 : decode cX11_meanDelay 50 = .ok (.aload_n 0, 1) := by decide +kernel
theorem dX11_meanDelay_51 : decode cX11_meanDelay 51 = .ok (.iload_n 3, 1) := by decide +kernel
theorem dX11_meanDelay_52 : decode cX11_meanDelay 52 = .ok (.iconst 4, 1) := by decide +kernel
theorem dX11_meanDelay_53 : decode cX11_meanDelay 53 = .ok (.invokevirtual 130, 3) := by decide +kernel
theorem dX11_meanDelay_56 : decode cX11_meanDelay 56 = .ok (.isub, 1) := by decide +kernel
theorem dX11_meanDelay_57 : decode cX11_meanDelay 57 = .ok (.goto 4, 3) := by decide +kernel
theorem dX11_meanDelay_60 : decode cX11_meanDelay 60 = .ok (.iconst 0, 1) := by decide +kernel
theorem dX11_meanDelay_61 : decode cX11_meanDelay 61 = .ok (.iadd, 1) := by decide +kernel
theorem dX11_meanDelay_62 : decode cX11_meanDelay 62 = .ok (.istore_n 1, 1) := by decide +kernel
theorem dX11_meanDelay_63 : decode cX11_meanDelay 63 = .ok (.iload_n 2, 1) := by decide +kernel
theorem dX11_meanDelay_64 : decode cX11_meanDelay 64 = .ok (.iload 4, 2) := by decide +kernel
theorem dX11_meanDelay_66 : decode cX11_meanDelay 66 = .ok (.ifCond .eq 7, 3) := by decide +kernel
theorem dX11_meanDelay_69 : decode cX11_meanDelay 69 = .ok (.iconst 1, 1) := by decide +kernel
theorem dX11_meanDelay_70 : decode cX11_meanDelay 70 = .ok (.goto 4, 3) := by decide +kernel
theorem dX11_meanDelay_73 : decode cX11_meanDelay 73 = .ok (.iconst 0, 1) := by decide +kernel
theorem dX11_meanDelay_74 : decode cX11_meanDelay 74 = .ok (.iadd, 1) := by decide +kernel
theorem dX11_meanDelay_75 : decode cX11_meanDelay 75 = .ok (.istore_n 2, 1) := by decide +kernel
theorem dX11_meanDelay_76 : decode cX11_meanDelay 76 = .ok (.iinc 3 1, 3) := by decide +kernel
theorem dX11_meanDelay_79 : decode cX11_meanDelay 79 = .ok (.goto (-68), 3) := by decide +kernel
theorem dX11_meanDelay_82 : decode cX11_meanDelay 82 = .ok (.iload_n 2, 1) := by decide +kernel
theorem dX11_meanDelay_83 : decode cX11_meanDelay 83 = .ok (.ifCond .ne 7, 3) := by decide +kernel
theorem dX11_meanDelay_86 : decode cX11_meanDelay 86 = .ok (.dconst 0, 1) := by decide +kernel
theorem dX11_meanDelay_87 : decode cX11_meanDelay 87 = .ok (.goto 8, 3) := by decide +kernel
theorem dX11_meanDelay_90 : decode cX11_meanDelay 90 = .ok (.iload_n 1, 1) := by decide +kernel
theorem dX11_meanDelay_91 : decode cX11_meanDelay 91 = .ok (.i2d, 1) := by decide +kernel
theorem dX11_meanDelay_92 : decode cX11_meanDelay 92 = .ok (.iload_n 2, 1) := by decide +kernel
theorem dX11_meanDelay_93 : decode cX11_meanDelay 93 = .ok (.i2d, 1) := by decide +kernel
theorem dX11_meanDelay_94 : decode cX11_meanDelay 94 = .ok (.ddiv, 1) := by decide +kernel
theorem dX11_meanDelay_95 : decode cX11_meanDelay 95 = .ok (.dreturn, 1) := by decide +kernel
theorem dX11_success_0 : decode cX11_success 0 = .ok (.aload_n 0, 1) := by decide +kernel
theorem dX11_success_1 : decode cX11_success 1 = .ok (.iconst 0, 1) := by decide +kernel
theorem dX11_success_2 : decode cX11_success 2 = .ok (.putfield 77, 3) := by decide +kernel
theorem dX11_success_5 : decode cX11_success 5 = .ok (.aload_n 0, 1) := by decide +kernel
theorem dX11_success_6 : decode cX11_success 6 = .ok (.getfield 9, 3) := by decide +kernel
theorem dX11_success_9 : decode cX11_success 9 = .ok (.iconst 4, 1) := by decide +kernel
theorem dX11_success_10 : decode cX11_success 10 = .ok (.iaload, 1) := by decide +kernel
theorem dX11_success_11 : decode cX11_success 11 = .ok (.ifCond .ne 7, 3) := by decide +kernel
theorem dX11_success_14 : decode cX11_success 14 = .ok (.fconst 0, 1) := by decide +kernel
theorem dX11_success_15 : decode cX11_success 15 = .ok (.goto 17, 3) := by decide +kernel
theorem dX11_success_18 : decode cX11_success 18 = .ok (.aload_n 0, 1) := by decide +kernel
theorem dX11_success_19 : decode cX11_success 19 = .ok (.iconst 2, 1) := by decide +kernel
theorem dX11_success_20 : decode cX11_success 20 = .ok (.invokevirtual 210, 3) := by decide +kernel
theorem dX11_success_23 : decode cX11_success 23 = .ok (.i2f, 1) := by decide +kernel
theorem dX11_success_24 : decode cX11_success 24 = .ok (.aload_n 0, 1) := by decide +kernel
theorem dX11_success_25 : decode cX11_success 25 = .ok (.getfield 9, 3) := by decide +kernel
theorem dX11_success_28 : decode cX11_success 28 = .ok (.iconst 4, 1) := by decide +kernel
theorem dX11_success_29 : decode cX11_success 29 = .ok (.iaload, 1) := by decide +kernel
theorem dX11_success_30 : decode cX11_success 30 = .ok (.i2f, 1) := by decide +kernel
theorem dX11_success_31 : decode cX11_success 31 = .ok (.fdiv, 1) := by decide +kernel
theorem dX11_success_32 : decode cX11_success 32 = .ok (.freturn, 1) := by decide +kernel
theorem dX11_pass_0 : decode cX11_pass 0 = .ok (.aload_n 0, 1) := by decide +kernel
theorem dX11_pass_1 : decode cX11_pass 1 = .ok (.iconst 0, 1) := by decide +kernel
theorem dX11_pass_2 : decode cX11_pass 2 = .ok (.putfield 77, 3) := by decide +kernel
theorem dX11_pass_5 : decode cX11_pass 5 = .ok (.iload_n 1, 1) := by decide +kernel
theorem dX11_pass_6 : decode cX11_pass 6 = .ok (.iconst 1, 1) := by decide +kernel
theorem dX11_pass_7 : decode cX11_pass 7 = .ok (.bipush 60, 2) := by decide +kernel
theorem dX11_pass_9 : decode cX11_pass 9 = .ok (.invokestatic 90, 3) := by decide +kernel
theorem dX11_pass_12 : decode cX11_pass 12 = .ok (.ifCond .ne 9, 3) := by decide +kernel
theorem dX11_pass_15 : decode cX11_pass 15 = .ok (.aload_n 0, 1) := by decide +kernel
theorem dX11_pass_16 : decode cX11_pass 16 = .ok (.iconst 1, 1) := by decide +kernel
theorem dX11_pass_17 : decode cX11_pass 17 = .ok (.invokevirtual 192, 3) := by decide +kernel
theorem dX11_pass_20 : decode cX11_pass 20 = .ok (.ireturn, 1) := by decide +kernel
theorem dX11_pass_21 : decode cX11_pass 21 = .ok (.aload_n 0, 1) := by decide +kernel
theorem dX11_pass_22 : decode cX11_pass 22 = .ok (.invokevirtual 126, 3) := by decide +kernel
theorem dX11_pass_25 : decode cX11_pass 25 = .ok (.iload_n 1, 1) := by decide +kernel
theorem dX11_pass_26 : decode cX11_pass 26 = .ok (.iadd, 1) := by decide +kernel
theorem dX11_pass_27 : decode cX11_pass 27 = .ok (.sipush 500, 3) := by decide +kernel
theorem dX11_pass_30 : decode cX11_pass 30 = .ok (.if_icmp .le 6, 3) := by decide +kernel
theorem dX11_pass_33 : decode cX11_pass 33 = .ok (.bipush (-2), 2) := by decide +kernel
theorem dX11_pass_35 : decode cX11_pass 35 = .ok (.ireturn, 1) := by decide +kernel
theorem dX11_pass_36 : decode cX11_pass 36 = .ok (.aload_n 0, 1) := by decide +kernel
theorem dX11_pass_37 : decode cX11_pass 37 = .ok (.invokevirtual 232, 3) := by decide +kernel
theorem dX11_pass_40 : decode cX11_pass 40 = .ok (.aload_n 0, 1) := by decide +kernel
theorem dX11_pass_41 : decode cX11_pass 41 = .ok (.getfield 9, 3) := by decide +kernel
theorem dX11_pass_44 : decode cX11_pass 44 = .ok (.bipush 7, 2) := by decide +kernel
theorem dX11_pass_46 : decode cX11_pass 46 = .ok (.iaload, 1) := by decide +kernel
theorem dX11_pass_47 : decode cX11_pass 47 = .ok (.istore_n 2, 1) := by decide +kernel
theorem dX11_pass_48 : decode cX11_pass 48 = .ok (.iconst 0, 1) := by decide +kernel
theorem dX11_pass_49 : decode cX11_pass 49 = .ok (.istore_n 3, 1) := by decide +kernel
theorem dX11_pass_50 : decode cX11_pass 50 = .ok (.iload_n 3, 1) := by decide +kernel
theorem dX11_pass_51 : decode cX11_pass 51 = .ok (.iload_n 1, 1) := by decide +kernel
theorem dX11_pass_52 : decode cX11_pass 52 = .ok (.if_icmp .ge 13, 3) := by decide +kernel
theorem dX11_pass_55 : decode cX11_pass 55 = .ok (.aload_n 0, 1) := by decide +kernel
theorem dX11_pass_56 : decode cX11_pass 56 = .ok (.invokevirtual 223, 3) := by decide +kernel
theorem dX11_pass_59 : decode cX11_pass 59 = .ok (.iinc 3 1, 3) := by decide +kernel
theorem dX11_pass_62 : decode cX11_pass 62 = .ok (.goto (-12), 3) := by decide +kernel
theorem dX11_pass_65 : decode cX11_pass 65 = .ok (.aload_n 0, 1) := by decide +kernel
theorem dX11_pass_66 : decode cX11_pass 66 = .ok (.getfield 9, 3) := by decide +kernel
theorem dX11_pass_69 : decode cX11_pass 69 = .ok (.bipush 7, 2) := by decide +kernel
theorem dX11_pass_71 : decode cX11_pass 71 = .ok (.iaload, 1) := by decide +kernel
theorem dX11_pass_72 : decode cX11_pass 72 = .ok (.iload_n 2, 1) := by decide +kernel
theorem dX11_pass_73 : decode cX11_pass 73 = .ok (.isub, 1) := by decide +kernel
theorem dX11_pass_74 : decode cX11_pass 74 = .ok (.ireturn, 1) := by decide +kernel
theorem dX11_send_0 : decode cX11_send 0 = .ok (.aload_n 0, 1) := by decide +kernel
theorem dX11_send_1 : decode cX11_send 1 = .ok (.iload_n 1, 1) := by decide +kernel
theorem dX11_send_2 : decode cX11_send 2 = .ok (.iload_n 2, 1) := by decide +kernel
theorem dX11_send_3 : decode cX11_send 3 = .ok (.iload_n 3, 1) := by decide +kernel
theorem dX11_send_4 : decode cX11_send 4 = .ok (.invokevirtual 217, 3) := by decide +kernel
theorem dX11_send_7 : decode cX11_send 7 = .ok (.ifCond .ne 5, 3) := by decide +kernel
theorem dX11_send_10 : decode cX11_send 10 = .ok (.iconst 0, 1) := by decide +kernel
theorem dX11_send_11 : decode cX11_send 11 = .ok (.ireturn, 1) := by decide +kernel
theorem dX11_send_12 : decode cX11_send 12 = .ok (.aload_n 0, 1) := by decide +kernel
theorem dX11_send_13 : decode cX11_send 13 = .ok (.getfield 9, 3) := by decide +kernel
theorem dX11_send_16 : decode cX11_send 16 = .ok (.iconst 4, 1) := by decide +kernel
theorem dX11_send_17 : decode cX11_send 17 = .ok (.iaload, 1) := by decide +kernel
theorem dX11_send_18 : decode cX11_send 18 = .ok (.bipush 40, 2) := by decide +kernel
theorem dX11_send_20 : decode cX11_send 20 = .ok (.if_icmp .ne 6, 3) := by decide +kernel
theorem dX11_send_23 : decode cX11_send 23 = .ok (.bipush (-3), 2) := by decide +kernel
theorem dX11_send_25 : decode cX11_send 25 = .ok (.ireturn, 1) := by decide +kernel
theorem dX11_send_26 : decode cX11_send 26 = .ok (.aload_n 0, 1) := by decide +kernel
theorem dX11_send_27 : decode cX11_send 27 = .ok (.invokevirtual 232, 3) := by decide +kernel
theorem dX11_send_30 : decode cX11_send 30 = .ok (.aload_n 0, 1) := by decide +kernel
theorem dX11_send_31 : decode cX11_send 31 = .ok (.iload_n 1, 1) := by decide +kernel
theorem dX11_send_32 : decode cX11_send 32 = .ok (.iload_n 2, 1) := by decide +kernel
theorem dX11_send_33 : decode cX11_send 33 = .ok (.iload_n 3, 1) := by decide +kernel
theorem dX11_send_34 : decode cX11_send 34 = .ok (.invokevirtual 167, 3) := by decide +kernel
theorem dX11_send_37 : decode cX11_send 37 = .ok (.aload_n 0, 1) := by decide +kernel
theorem dX11_send_38 : decode cX11_send 38 = .ok (.getfield 9, 3) := by decide +kernel
theorem dX11_send_41 : decode cX11_send 41 = .ok (.iconst 4, 1) := by decide +kernel
theorem dX11_send_42 : decode cX11_send 42 = .ok (.iaload, 1) := by decide +kernel
theorem dX11_send_43 : decode cX11_send 43 = .ok (.iconst 1, 1) := by decide +kernel
theorem dX11_send_44 : decode cX11_send 44 = .ok (.isub, 1) := by decide +kernel
theorem dX11_send_45 : decode cX11_send 45 = .ok (.ireturn, 1) := by decide +kernel
theorem dX11_isHeld_0 : decode cX11_isHeld 0 = .ok (.aload_n 0, 1) := by decide +kernel
theorem dX11_isHeld_1 : decode cX11_isHeld 1 = .ok (.getfield 9, 3) := by decide +kernel
theorem dX11_isHeld_4 : decode cX11_isHeld 4 = .ok (.bipush 10, 2) := by decide +kernel
theorem dX11_isHeld_6 : decode cX11_isHeld 6 = .ok (.iaload, 1) := by decide +kernel
theorem dX11_isHeld_7 : decode cX11_isHeld 7 = .ok (.iload_n 1, 1) := by decide +kernel
theorem dX11_isHeld_8 : decode cX11_isHeld 8 = .ok (.if_icmp .ne 18, 3) := by decide +kernel
theorem dX11_isHeld_11 : decode cX11_isHeld 11 = .ok (.aload_n 0, 1) := by decide +kernel
theorem dX11_isHeld_12 : decode cX11_isHeld 12 = .ok (.getfield 9, 3) := by decide +kernel
theorem dX11_isHeld_15 : decode cX11_isHeld 15 = .ok (.bipush 11, 2) := by decide +kernel
theorem dX11_isHeld_17 : decode cX11_isHeld 17 = .ok (.iaload, 1) := by decide +kernel
theorem dX11_isHeld_18 : decode cX11_isHeld 18 = .ok (.iload_n 2, 1) := by decide +kernel
theorem dX11_isHeld_19 : decode cX11_isHeld 19 = .ok (.if_icmp .ne 7, 3) := by decide +kernel
theorem dX11_isHeld_22 : decode cX11_isHeld 22 = .ok (.iconst 1, 1) := by decide +kernel
theorem dX11_isHeld_23 : decode cX11_isHeld 23 = .ok (.goto 4, 3) := by decide +kernel
theorem dX11_isHeld_26 : decode cX11_isHeld 26 = .ok (.iconst 0, 1) := by decide +kernel
theorem dX11_isHeld_27 : decode cX11_isHeld 27 = .ok (.istore_n 3, 1) := by decide +kernel
theorem dX11_isHeld_28 : decode cX11_isHeld 28 = .ok (.iconst 0, 1) := by decide +kernel
theorem dX11_isHeld_29 : decode cX11_isHeld 29 = .ok (.istore 4, 2) := by decide +kernel
theorem dX11_isHeld_31 : decode cX11_isHeld 31 = .ok (.iload 4, 2) := by decide +kernel
theorem dX11_isHeld_33 : decode cX11_isHeld 33 = .ok (.aload_n 0, 1) := by decide +kernel
theorem dX11_isHeld_34 : decode cX11_isHeld 34 = .ok (.getfield 9, 3) := by decide +kernel
theorem dX11_isHeld_37 : decode cX11_isHeld 37 = .ok (.iconst 2, 1) := by decide +kernel
theorem dX11_isHeld_38 : decode cX11_isHeld 38 = .ok (.iaload, 1) := by decide +kernel
theorem dX11_isHeld_39 : decode cX11_isHeld 39 = .ok (.if_icmp .ge 39, 3) := by decide +kernel
theorem dX11_isHeld_42 : decode cX11_isHeld 42 = .ok (.iload_n 3, 1) := by decide +kernel
theorem dX11_isHeld_43 : decode cX11_isHeld 43 = .ok (.aload_n 0, 1) := by decide +kernel
theorem dX11_isHeld_44 : decode cX11_isHeld 44 = .ok (.iload 4, 2) := by decide +kernel
theorem dX11_isHeld_46 : decode cX11_isHeld 46 = .ok (.iconst 0, 1) := by decide +kernel
theorem dX11_isHeld_47 : decode cX11_isHeld 47 = .ok (.invokevirtual 133, 3) := by decide +kernel
theorem dX11_isHeld_50 : decode cX11_isHeld 50 = .ok (.iload_n 1, 1) := by decide +kernel
theorem dX11_isHeld_51 : decode cX11_isHeld 51 = .ok (.if_icmp .ne 18, 3) := by decide +kernel
theorem dX11_isHeld_54 : decode cX11_isHeld 54 = .ok (.aload_n 0, 1) := by decide +kernel
theorem dX11_isHeld_55 : decode cX11_isHeld 55 = .ok (.iload 4, 2) := by decide +kernel
theorem dX11_isHeld_57 : decode cX11_isHeld 57 = .ok (.iconst 1, 1) := by decide +kernel
theorem dX11_isHeld_58 : decode cX11_isHeld 58 = .ok (.invokevirtual 133, 3) := by decide +kernel
theorem dX11_isHeld_61 : decode cX11_isHeld 61 = .ok (.iload_n 2, 1) := by decide +kernel
theorem dX11_isHeld_62 : decode cX11_isHeld 62 = .ok (.if_icmp .ne 7, 3) := by decide +kernel
theorem dX11_isHeld_65 : decode cX11_isHeld 65 = .ok (.iconst 1, 1) := by decide +kernel
theorem dX11_isHeld_66 : decode cX11_isHeld 66 = .ok (.goto 4, 3) := by decide +kernel
theorem dX11_isHeld_69 : decode cX11_isHeld 69 = .ok (.iconst 0, 1) := by decide +kernel
theorem dX11_isHeld_70 : decode cX11_isHeld 70 = .ok (.ior, 1) := by decide +kernel
theorem dX11_isHeld_71 : decode cX11_isHeld 71 = .ok (.istore_n 3, 1) := by decide +kernel
theorem dX11_isHeld_72 : decode cX11_isHeld 72 = .ok (.iinc 4 1, 3) := by decide +kernel
theorem dX11_isHeld_75 : decode cX11_isHeld 75 = .ok (.goto (-44), 3) := by decide +kernel
theorem dX11_isHeld_78 : decode cX11_isHeld 78 = .ok (.iconst 0, 1) := by decide +kernel
theorem dX11_isHeld_79 : decode cX11_isHeld 79 = .ok (.istore 4, 2) := by decide +kernel
theorem dX11_isHeld_81 : decode cX11_isHeld 81 = .ok (.iload 4, 2) := by decide +kernel
theorem dX11_isHeld_83 : decode cX11_isHeld 83 = .ok (.aload_n 0, 1) := by decide +kernel
theorem dX11_isHeld_84 : decode cX11_isHeld 84 = .ok (.getfield 9, 3) := by decide +kernel
theorem dX11_isHeld_87 : decode cX11_isHeld 87 = .ok (.iconst 4, 1) := by decide +kernel
theorem dX11_isHeld_88 : decode cX11_isHeld 88 = .ok (.iaload, 1) := by decide +kernel
theorem dX11_isHeld_89 : decode cX11_isHeld 89 = .ok (.if_icmp .ge 51, 3) := by decide +kernel
theorem dX11_isHeld_92 : decode cX11_isHeld 92 = .ok (.iload_n 3, 1) := by decide +kernel
theorem dX11_isHeld_93 : decode cX11_isHeld 93 = .ok (.aload_n 0, 1) := by decide +kernel
theorem dX11_isHeld_94 : decode cX11_isHeld 94 = .ok (.iload 4, 2) := by decide +kernel
theorem dX11_isHeld_96 : decode cX11_isHeld 96 = .ok (.iconst 3, 1) := by decide +kernel
theorem dX11_isHeld_97 : decode cX11_isHeld 97 = .ok (.invokevirtual 130, 3) := by decide +kernel
theorem dX11_isHeld_100 : decode cX11_isHeld 100 = .ok (.ifCond .ne 31, 3) := by decide +kernel
theorem dX11_isHeld_103 : decode cX11_isHeld 103 = .ok (.aload_n 0, 1) := by decide +kernel
theorem dX11_isHeld_104 : decode cX11_isHeld 104 = .ok (.iload 4, 2) := by decide +kernel
theorem dX11_isHeld_106 : decode cX11_isHeld 106 = .ok (.bipush 7, 2) := by decide +kernel
theorem dX11_isHeld_108 : decode cX11_isHeld 108 = .ok (.invokevirtual 130, 3) := by decide +kernel
theorem dX11_isHeld_111 : decode cX11_isHeld 111 = .ok (.iload_n 1, 1) := by decide +kernel
theorem dX11_isHeld_112 : decode cX11_isHeld 112 = .ok (.if_icmp .ne 19, 3) := by decide +kernel
theorem dX11_isHeld_115 : decode cX11_isHeld 115 = .ok (.aload_n 0, 1) := by decide +kernel
theorem dX11_isHeld_116 : decode cX11_isHeld 116 = .ok (.iload 4, 2) := by decide +kernel
theorem dX11_isHeld_118 : decode cX11_isHeld 118 = .ok (.bipush 8, 2) := by decide +kernel
theorem dX11_isHeld_120 : decode cX11_isHeld 120 = .ok (.invokevirtual 130, 3) := by decide +kernel
theorem dX11_isHeld_123 : decode cX11_isHeld 123 = .ok (.iload_n 2, 1) := by decide +kernel
theorem dX11_isHeld_124 : decode cX11_isHeld 124 = .ok (.if_icmp .ne 7, 3) := by decide +kernel
theorem dX11_isHeld_127 : decode cX11_isHeld 127 = .ok (.iconst 1, 1) := by decide +kernel
theorem dX11_isHeld_128 : decode cX11_isHeld 128 = .ok (.goto 4, 3) := by decide +kernel
theorem dX11_isHeld_131 : decode cX11_isHeld 131 = .ok (.iconst 0, 1) := by decide +kernel
theorem dX11_isHeld_132 : decode cX11_isHeld 132 = .ok (.ior, 1) := by decide +kernel
theorem dX11_isHeld_133 : decode cX11_isHeld 133 = .ok (.istore_n 3, 1) := by decide +kernel
theorem dX11_isHeld_134 : decode cX11_isHeld 134 = .ok (.iinc 4 1, 3) := by decide +kernel
theorem dX11_isHeld_137 : decode cX11_isHeld 137 = .ok (.goto (-56), 3) := by decide +kernel
theorem dX11_isHeld_140 : decode cX11_isHeld 140 = .ok (.iload_n 3, 1) := by decide +kernel
theorem dX11_isHeld_141 : decode cX11_isHeld 141 = .ok (.ireturn, 1) := by decide +kernel
theorem dX11_isGoal_0 : decode cX11_isGoal 0 = .ok (.iconst 0, 1) := by decide +kernel
theorem dX11_isGoal_1 : decode cX11_isGoal 1 = .ok (.istore_n 3, 1) := by decide +kernel
theorem dX11_isGoal_2 : decode cX11_isGoal 2 = .ok (.iconst 0, 1) := by decide +kernel
theorem dX11_isGoal_3 : decode cX11_isGoal 3 = .ok (.istore 4, 2) := by decide +kernel
theorem dX11_isGoal_5 : decode cX11_isGoal 5 = .ok (.iload 4, 2) := by decide +kernel
theorem dX11_isGoal_7 : decode cX11_isGoal 7 = .ok (.aload_n 0, 1) := by decide +kernel
theorem dX11_isGoal_8 : decode cX11_isGoal 8 = .ok (.getfield 9, 3) := by decide +kernel
theorem dX11_isGoal_11 : decode cX11_isGoal 11 = .ok (.iconst 4, 1) := by decide +kernel
theorem dX11_isGoal_12 : decode cX11_isGoal 12 = .ok (.iaload, 1) := by decide +kernel
theorem dX11_isGoal_13 : decode cX11_isGoal 13 = .ok (.if_icmp .ge 62, 3) := by decide +kernel
theorem dX11_isGoal_16 : decode cX11_isGoal 16 = .ok (.aload_n 0, 1) := by decide +kernel
theorem dX11_isGoal_17 : decode cX11_isGoal 17 = .ok (.iload 4, 2) := by decide +kernel
theorem dX11_isGoal_19 : decode cX11_isGoal 19 = .ok (.iconst 3, 1) := by decide +kernel
theorem dX11_isGoal_20 : decode cX11_isGoal 20 = .ok (.invokevirtual 130, 3) := by decide +kernel
theorem dX11_isGoal_23 : decode cX11_isGoal 23 = .ok (.iconst 1, 1) := by decide +kernel
theorem dX11_isGoal_24 : decode cX11_isGoal 24 = .ok (.if_icmp .gt 7, 3) := by decide +kernel
theorem dX11_isGoal_27 : decode cX11_isGoal 27 = .ok (.iconst 1, 1) := by decide +kernel
theorem dX11_isGoal_28 : decode cX11_isGoal 28 = .ok (.goto 4, 3) := by decide +kernel
theorem dX11_isGoal_31 : decode cX11_isGoal 31 = .ok (.iconst 0, 1) := by decide +kernel
theorem dX11_isGoal_32 : decode cX11_isGoal 32 = .ok (.istore 5, 2) := by decide +kernel
theorem dX11_isGoal_34 : decode cX11_isGoal 34 = .ok (.iload_n 3, 1) := by decide +kernel
theorem dX11_isGoal_35 : decode cX11_isGoal 35 = .ok (.iload 5, 2) := by decide +kernel
theorem dX11_isGoal_37 : decode cX11_isGoal 37 = .ok (.ifCond .eq 29, 3) := by decide +kernel
theorem dX11_isGoal_40 : decode cX11_isGoal 40 = .ok (.aload_n 0, 1) := by decide +kernel
theorem dX11_isGoal_41 : decode cX11_isGoal 41 = .ok (.iload 4, 2) := by decide +kernel
theorem dX11_isGoal_43 : decode cX11_isGoal 43 = .ok (.iconst 1, 1) := by decide +kernel
theorem dX11_isGoal_44 : decode cX11_isGoal 44 = .ok (.invokevirtual 130, 3) := by decide +kernel
theorem dX11_isGoal_47 : decode cX11_isGoal 47 = .ok (.iload_n 1, 1) := by decide +kernel
theorem dX11_isGoal_48 : decode cX11_isGoal 48 = .ok (.if_icmp .ne 18, 3) := by decide +kernel
theorem dX11_isGoal_51 : decode cX11_isGoal 51 = .ok (.aload_n 0, 1) := by decide +kernel
theorem dX11_isGoal_52 : decode cX11_isGoal 52 = .ok (.iload 4, 2) := by decide +kernel
theorem dX11_isGoal_54 : decode cX11_isGoal 54 = .ok (.iconst 2, 1) := by decide +kernel
theorem dX11_isGoal_55 : decode cX11_isGoal 55 = .ok (.invokevirtual 130, 3) := by decide +kernel
theorem dX11_isGoal_58 : decode cX11_isGoal 58 = .ok (.iload_n 2, 1) := by decide +kernel
theorem dX11_isGoal_59 : decode cX11_isGoal 59 = .ok (.if_icmp .ne 7, 3) := by decide +kernel
theorem dX11_isGoal_62 : decode cX11_isGoal 62 = .ok (.iconst 1, 1) := by decide +kernel
theorem dX11_isGoal_63 : decode cX11_isGoal 63 = .ok (.goto 4, 3) := by decide +kernel
theorem dX11_isGoal_66 : decode cX11_isGoal 66 = .ok (.iconst 0, 1) := by decide +kernel
theorem dX11_isGoal_67 : decode cX11_isGoal 67 = .ok (.ior, 1) := by decide +kernel
theorem dX11_isGoal_68 : decode cX11_isGoal 68 = .ok (.istore_n 3, 1) := by decide +kernel
theorem dX11_isGoal_69 : decode cX11_isGoal 69 = .ok (.iinc 4 1, 3) := by decide +kernel
theorem dX11_isGoal_72 : decode cX11_isGoal 72 = .ok (.goto (-67), 3) := by decide +kernel
theorem dX11_isGoal_75 : decode cX11_isGoal 75 = .ok (.iconst 0, 1) := by decide +kernel
theorem dX11_isGoal_76 : decode cX11_isGoal 76 = .ok (.istore 4, 2) := by decide +kernel
theorem dX11_isGoal_78 : decode cX11_isGoal 78 = .ok (.iload 4, 2) := by decide +kernel
theorem dX11_isGoal_80 : decode cX11_isGoal 80 = .ok (.aload_n 0, 1) := by decide +kernel
theorem dX11_isGoal_81 : decode cX11_isGoal 81 = .ok (.getfield 9, 3) := by decide +kernel
theorem dX11_isGoal_84 : decode cX11_isGoal 84 = .ok (.bipush 8, 2) := by decide +kernel
theorem dX11_isGoal_86 : decode cX11_isGoal 86 = .ok (.iaload, 1) := by decide +kernel
theorem dX11_isGoal_87 : decode cX11_isGoal 87 = .ok (.if_icmp .ge 77, 3) := by decide +kernel
theorem dX11_isGoal_90 : decode cX11_isGoal 90 = .ok (.aload_n 0, 1) := by decide +kernel
theorem dX11_isGoal_91 : decode cX11_isGoal 91 = .ok (.getfield 9, 3) := by decide +kernel
theorem dX11_isGoal_94 : decode cX11_isGoal 94 = .ok (.iload 4, 2) := by decide +kernel
theorem dX11_isGoal_96 : decode cX11_isGoal 96 = .ok (.iconst 3, 1) := by decide +kernel
theorem dX11_isGoal_97 : decode cX11_isGoal 97 = .ok (.invokestatic 164, 3) := by decide +kernel
theorem dX11_isGoal_100 : decode cX11_isGoal 100 = .ok (.iaload, 1) := by decide +kernel
theorem dX11_isGoal_101 : decode cX11_isGoal 101 = .ok (.aload_n 0, 1) := by decide +kernel
theorem dX11_isGoal_102 : decode cX11_isGoal 102 = .ok (.invokevirtual 126, 3) := by decide +kernel
theorem dX11_isGoal_105 : decode cX11_isGoal 105 = .ok (.if_icmp .lt 7, 3) := by decide +kernel
theorem dX11_isGoal_108 : decode cX11_isGoal 108 = .ok (.iconst 1, 1) := by decide +kernel
theorem dX11_isGoal_109 : decode cX11_isGoal 109 = .ok (.goto 4, 3) := by decide +kernel
theorem dX11_isGoal_112 : decode cX11_isGoal 112 = .ok (.iconst 0, 1) := by decide +kernel
theorem dX11_isGoal_113 : decode cX11_isGoal 113 = .ok (.istore 5, 2) := by decide +kernel
theorem dX11_isGoal_115 : decode cX11_isGoal 115 = .ok (.iload_n 3, 1) := by decide +kernel
theorem dX11_isGoal_116 : decode cX11_isGoal 116 = .ok (.iload 5, 2) := by decide +kernel
theorem dX11_isGoal_118 : decode cX11_isGoal 118 = .ok (.ifCond .eq 37, 3) := by decide +kernel
theorem dX11_isGoal_121 : decode cX11_isGoal 121 = .ok (.aload_n 0, 1) := by decide +kernel
theorem dX11_isGoal_122 : decode cX11_isGoal 122 = .ok (.getfield 9, 3) := by decide +kernel
theorem dX11_isGoal_125 : decode cX11_isGoal 125 = .ok (.iload 4, 2) := by decide +kernel
theorem dX11_isGoal_127 : decode cX11_isGoal 127 = .ok (.iconst 1, 1) := by decide +kernel
theorem dX11_isGoal_128 : decode cX11_isGoal 128 = .ok (.invokestatic 164, 3) := by decide +kernel
theorem dX11_isGoal_131 : decode cX11_isGoal 131 = .ok (.iaload, 1) := by decide +kernel
theorem dX11_isGoal_132 : decode cX11_isGoal 132 = .ok (.iload_n 1, 1) := by decide +kernel
theorem dX11_isGoal_133 : decode cX11_isGoal 133 = .ok (.if_icmp .ne 22, 3) := by decide +kernel
theorem dX11_isGoal_136 : decode cX11_isGoal 136 = .ok (.aload_n 0, 1) := by decide +kernel
theorem dX11_isGoal_137 : decode cX11_isGoal 137 = .ok (.getfield 9, 3) := by decide +kernel
theorem dX11_isGoal_140 : decode cX11_isGoal 140 = .ok (.iload 4, 2) := by decide +kernel
theorem dX11_isGoal_142 : decode cX11_isGoal 142 = .ok (.iconst 2, 1) := by decide +kernel
theorem dX11_isGoal_143 : decode cX11_isGoal 143 = .ok (.invokestatic 164, 3) := by decide +kernel
theorem dX11_isGoal_146 : decode cX11_isGoal 146 = .ok (.iaload, 1) := by decide +kernel
theorem dX11_isGoal_147 : decode cX11_isGoal 147 = .ok (.iload_n 2, 1) := by decide +kernel
theorem dX11_isGoal_148 : decode cX11_isGoal 148 = .ok (.if_icmp .ne 7, 3) := by decide +kernel
theorem dX11_isGoal_151 : decode cX11_isGoal 151 = .ok (.iconst 1, 1) := by decide +kernel
theorem dX11_isGoal_152 : decode cX11_isGoal 152 = .ok (.goto 4, 3) := by decide +kernel
theorem dX11_isGoal_155 : decode cX11_isGoal 155 = .ok (.iconst 0, 1) := by decide +kernel
theorem dX11_isGoal_156 : decode cX11_isGoal 156 = .ok (.ior, 1) := by decide +kernel
theorem dX11_isGoal_157 : decode cX11_isGoal 157 = .ok (.istore_n 3, 1) := by decide +kernel
theorem dX11_isGoal_158 : decode cX11_isGoal 158 = .ok (.iinc 4 1, 3) := by decide +kernel
theorem dX11_isGoal_161 : decode cX11_isGoal 161 = .ok (.goto (-83), 3) := by decide +kernel
theorem dX11_isGoal_164 : decode cX11_isGoal 164 = .ok (.iload_n 3, 1) := by decide +kernel
theorem dX11_isGoal_165 : decode cX11_isGoal 165 = .ok (.ireturn, 1) := by decide +kernel
theorem dX11_wall_0 : decode cX11_wall 0 = .ok (.aload_n 0, 1) := by decide +kernel
theorem dX11_wall_1 : decode cX11_wall 1 = .ok (.iconst 0, 1) := by decide +kernel
theorem dX11_wall_2 : decode cX11_wall 2 = .ok (.putfield 77, 3) := by decide +kernel
theorem dX11_wall_5 : decode cX11_wall 5 = .ok (.aload_n 0, 1) := by decide +kernel
theorem dX11_wall_6 : decode cX11_wall 6 = .ok (.iload_n 1, 1) := by decide +kernel
theorem dX11_wall_7 : decode cX11_wall 7 = .ok (.iload_n 2, 1) := by decide +kernel
theorem dX11_wall_8 : decode cX11_wall 8 = .ok (.invokevirtual 94, 3) := by decide +kernel
theorem dX11_wall_11 : decode cX11_wall 11 = .ok (.ifCond .ne 9, 3) := by decide +kernel
theorem dX11_wall_14 : decode cX11_wall 14 = .ok (.aload_n 0, 1) := by decide +kernel
theorem dX11_wall_15 : decode cX11_wall 15 = .ok (.iconst 1, 1) := by decide +kernel
theorem dX11_wall_16 : decode cX11_wall 16 = .ok (.invokevirtual 192, 3) := by decide +kernel
theorem dX11_wall_19 : decode cX11_wall 19 = .ok (.ireturn, 1) := by decide +kernel
theorem dX11_wall_20 : decode cX11_wall 20 = .ok (.aload_n 0, 1) := by decide +kernel
theorem dX11_wall_21 : decode cX11_wall 21 = .ok (.iload_n 1, 1) := by decide +kernel
theorem dX11_wall_22 : decode cX11_wall 22 = .ok (.iload_n 2, 1) := by decide +kernel
theorem dX11_wall_23 : decode cX11_wall 23 = .ok (.invokevirtual 235, 3) := by decide +kernel
theorem dX11_wall_26 : decode cX11_wall 26 = .ok (.ifCond .eq 6, 3) := by decide +kernel
theorem dX11_wall_29 : decode cX11_wall 29 = .ok (.bipush (-2), 2) := by decide +kernel
theorem dX11_wall_31 : decode cX11_wall 31 = .ok (.ireturn, 1) := by decide +kernel
theorem dX11_wall_32 : decode cX11_wall 32 = .ok (.aload_n 0, 1) := by decide +kernel
theorem dX11_wall_33 : decode cX11_wall 33 = .ok (.iload_n 1, 1) := by decide +kernel
theorem dX11_wall_34 : decode cX11_wall 34 = .ok (.iload_n 2, 1) := by decide +kernel
theorem dX11_wall_35 : decode cX11_wall 35 = .ok (.invokevirtual 238, 3) := by decide +kernel
theorem dX11_wall_38 : decode cX11_wall 38 = .ok (.ifCond .eq 6, 3) := by decide +kernel
theorem dX11_wall_41 : decode cX11_wall 41 = .ok (.bipush (-3), 2) := by decide +kernel
theorem dX11_wall_43 : decode cX11_wall 43 = .ok (.ireturn, 1) := by decide +kernel
theorem dX11_wall_44 : decode cX11_wall 44 = .ok (.aload_n 0, 1) := by decide +kernel
theorem dX11_wall_45 : decode cX11_wall 45 = .ok (.invokevirtual 232, 3) := by decide +kernel
theorem dX11_wall_48 : decode cX11_wall 48 = .ok (.aload_n 0, 1) := by decide +kernel
theorem dX11_wall_49 : decode cX11_wall 49 = .ok (.getfield 9, 3) := by decide +kernel
theorem dX11_wall_52 : decode cX11_wall 52 = .ok (.iload_n 1, 1) := by decide +kernel
theorem dX11_wall_53 : decode cX11_wall 53 = .ok (.iload_n 2, 1) := by decide +kernel
theorem dX11_wall_54 : decode cX11_wall 54 = .ok (.invokestatic 98, 3) := by decide +kernel
theorem dX11_wall_57 : decode cX11_wall 57 = .ok (.iconst 1, 1) := by decide +kernel
theorem dX11_wall_58 : decode cX11_wall 58 = .ok (.aload_n 0, 1) := by decide +kernel
theorem dX11_wall_59 : decode cX11_wall 59 = .ok (.getfield 9, 3) := by decide +kernel
theorem dX11_wall_62 : decode cX11_wall 62 = .ok (.iload_n 1, 1) := by decide +kernel
theorem dX11_wall_63 : decode cX11_wall 63 = .ok (.iload_n 2, 1) := by decide +kernel
theorem dX11_wall_64 : decode cX11_wall 64 = .ok (.invokestatic 98, 3) := by decide +kernel
theorem dX11_wall_67 : decode cX11_wall 67 = .ok (.iaload, 1) := by decide +kernel
theorem dX11_wall_68 : decode cX11_wall 68 = .ok (.isub, 1) := by decide +kernel
theorem dX11_wall_69 : decode cX11_wall 69 = .ok (.iastore, 1) := by decide +kernel
theorem dX11_wall_70 : decode cX11_wall 70 = .ok (.aload_n 0, 1) := by decide +kernel
theorem dX11_wall_71 : decode cX11_wall 71 = .ok (.getfield 9, 3) := by decide +kernel
theorem dX11_wall_74 : decode cX11_wall 74 = .ok (.bipush 6, 2) := by decide +kernel
theorem dX11_wall_76 : decode cX11_wall 76 = .ok (.dup2, 1) := by decide +kernel
theorem dX11_wall_77 : decode cX11_wall 77 = .ok (.iaload, 1) := by decide +kernel
theorem dX11_wall_78 : decode cX11_wall 78 = .ok (.iconst 2, 1) := by decide +kernel
theorem dX11_wall_79 : decode cX11_wall 79 = .ok (.aload_n 0, 1) := by decide +kernel
theorem dX11_wall_80 : decode cX11_wall 80 = .ok (.getfield 9, 3) := by decide +kernel
theorem dX11_wall_83 : decode cX11_wall 83 = .ok (.iload_n 1, 1) := by decide +kernel
theorem dX11_wall_84 : decode cX11_wall 84 = .ok (.iload_n 2, 1) := by decide +kernel
theorem dX11_wall_85 : decode cX11_wall 85 = .ok (.invokestatic 98, 3) := by decide +kernel
theorem dX11_wall_88 : decode cX11_wall 88 = .ok (.iaload, 1) := by decide +kernel
theorem dX11_wall_89 : decode cX11_wall 89 = .ok (.imul, 1) := by decide +kernel
theorem dX11_wall_90 : decode cX11_wall 90 = .ok (.iconst 1, 1) := by decide +kernel
theorem dX11_wall_91 : decode cX11_wall 91 = .ok (.isub, 1) := by decide +kernel
theorem dX11_wall_92 : decode cX11_wall 92 = .ok (.iadd, 1) := by decide +kernel
theorem dX11_wall_93 : decode cX11_wall 93 = .ok (.iastore, 1) := by decide +kernel
theorem dX11_wall_94 : decode cX11_wall 94 = .ok (.aload_n 0, 1) := by decide +kernel
theorem dX11_wall_95 : decode cX11_wall 95 = .ok (.getfield 9, 3) := by decide +kernel
theorem dX11_wall_98 : decode cX11_wall 98 = .ok (.bipush 6, 2) := by decide +kernel
theorem dX11_wall_100 : decode cX11_wall 100 = .ok (.iaload, 1) := by decide +kernel
theorem dX11_wall_101 : decode cX11_wall 101 = .ok (.ireturn, 1) := by decide +kernel
theorem dX11_movePicket_0 : decode cX11_movePicket 0 = .ok (.aload_n 0, 1) := by decide +kernel
theorem dX11_movePicket_1 : decode cX11_movePicket 1 = .ok (.iconst 0, 1) := by decide +kernel
theorem dX11_movePicket_2 : decode cX11_movePicket 2 = .ok (.putfield 77, 3) := by decide +kernel
theorem dX11_movePicket_5 : decode cX11_movePicket 5 = .ok (.aload_n 0, 1) := by decide +kernel
theorem dX11_movePicket_6 : decode cX11_movePicket 6 = .ok (.iload_n 1, 1) := by decide +kernel
theorem dX11_movePicket_7 : decode cX11_movePicket 7 = .ok (.invokevirtual 201, 3) := by decide +kernel
theorem dX11_movePicket_10 : decode cX11_movePicket 10 = .ok (.ifCond .eq 12, 3) := by decide +kernel
theorem dX11_movePicket_13 : decode cX11_movePicket 13 = .ok (.aload_n 0, 1) := by decide +kernel
theorem dX11_movePicket_14 : decode cX11_movePicket 14 = .ok (.iload_n 2, 1) := by decide +kernel
theorem dX11_movePicket_15 : decode cX11_movePicket 15 = .ok (.iload_n 3, 1) := by decide +kernel
theorem dX11_movePicket_16 : decode cX11_movePicket 16 = .ok (.invokevirtual 94, 3) := by decide +kernel
theorem dX11_movePicket_19 : decode cX11_movePicket 19 = .ok (.ifCond .ne 9, 3) := by decide +kernel
theorem dX11_movePicket_22 : decode cX11_movePicket 22 = .ok (.aload_n 0, 1) := by decide +kernel
theorem dX11_movePicket_23 : decode cX11_movePicket 23 = .ok (.iconst 1, 1) := by decide +kernel
theorem dX11_movePicket_24 : decode cX11_movePicket 24 = .ok (.invokevirtual 192, 3) := by decide +kernel
theorem dX11_movePicket_27 : decode cX11_movePicket 27 = .ok (.ireturn, 1) := by decide +kernel
theorem dX11_movePicket_28 : decode cX11_movePicket 28 = .ok (.aload_n 0, 1) := by decide +kernel
theorem dX11_movePicket_29 : decode cX11_movePicket 29 = .ok (.invokevirtual 232, 3) := by decide +kernel
theorem dX11_movePicket_32 : decode cX11_movePicket 32 = .ok (.aload_n 0, 1) := by decide +kernel
theorem dX11_movePicket_33 : decode cX11_movePicket 33 = .ok (.getfield 9, 3) := by decide +kernel
theorem dX11_movePicket_36 : decode cX11_movePicket 36 = .ok (.iload_n 1, 1) := by decide +kernel
theorem dX11_movePicket_37 : decode cX11_movePicket 37 = .ok (.iconst 0, 1) := by decide +kernel
theorem dX11_movePicket_38 : decode cX11_movePicket 38 = .ok (.invokestatic 84, 3) := by decide +kernel
theorem dX11_movePicket_41 : decode cX11_movePicket 41 = .ok (.iload_n 2, 1) := by decide +kernel
theorem dX11_movePicket_42 : decode cX11_movePicket 42 = .ok (.iastore, 1) := by decide +kernel
theorem dX11_movePicket_43 : decode cX11_movePicket 43 = .ok (.aload_n 0, 1) := by decide +kernel
theorem dX11_movePicket_44 : decode cX11_movePicket 44 = .ok (.getfield 9, 3) := by decide +kernel
theorem dX11_movePicket_47 : decode cX11_movePicket 47 = .ok (.iload_n 1, 1) := by decide +kernel
theorem dX11_movePicket_48 : decode cX11_movePicket 48 = .ok (.iconst 1, 1) := by decide +kernel
theorem dX11_movePicket_49 : decode cX11_movePicket 49 = .ok (.invokestatic 84, 3) := by decide +kernel
theorem dX11_movePicket_52 : decode cX11_movePicket 52 = .ok (.iload_n 3, 1) := by decide +kernel
theorem dX11_movePicket_53 : decode cX11_movePicket 53 = .ok (.iastore, 1) := by decide +kernel
theorem dX11_movePicket_54 : decode cX11_movePicket 54 = .ok (.aload_n 0, 1) := by decide +kernel
theorem dX11_movePicket_55 : decode cX11_movePicket 55 = .ok (.iload_n 1, 1) := by decide +kernel
theorem dX11_movePicket_56 : decode cX11_movePicket 56 = .ok (.aload_n 0, 1) := by decide +kernel
theorem dX11_movePicket_57 : decode cX11_movePicket 57 = .ok (.invokevirtual 126, 3) := by decide +kernel
theorem dX11_movePicket_60 : decode cX11_movePicket 60 = .ok (.invokevirtual 123, 3) := by decide +kernel
theorem dX11_movePicket_63 : decode cX11_movePicket 63 = .ok (.ifCond .eq 7, 3) := by decide +kernel
theorem dX11_movePicket_66 : decode cX11_movePicket 66 = .ok (.iconst 1, 1) := by decide +kernel
theorem dX11_movePicket_67 : decode cX11_movePicket 67 = .ok (.goto 4, 3) := by decide +kernel
theorem dX11_movePicket_70 : decode cX11_movePicket 70 = .ok (.iconst 0, 1) := by decide +kernel
theorem dX11_movePicket_71 : decode cX11_movePicket 71 = .ok (.ireturn, 1) := by decide +kernel
theorem dX11_movePlan_0 : decode cX11_movePlan 0 = .ok (.aload_n 0, 1) := by decide +kernel
theorem dX11_movePlan_1 : decode cX11_movePlan 1 = .ok (.aload_n 0, 1) := by decide +kernel
theorem dX11_movePlan_2 : decode cX11_movePlan 2 = .ok (.iload_n 1, 1) := by decide +kernel
theorem dX11_movePlan_3 : decode cX11_movePlan 3 = .ok (.invokevirtual 207, 3) := by decide +kernel
theorem dX11_movePlan_6 : decode cX11_movePlan 6 = .ok (.ifCond .ne 7, 3) := by decide +kernel
theorem dX11_movePlan_9 : decode cX11_movePlan 9 = .ok (.iconst 1, 1) := by decide +kernel
theorem dX11_movePlan_10 : decode cX11_movePlan 10 = .ok (.goto 22, 3) := by decide +kernel
theorem dX11_movePlan_13 : decode cX11_movePlan 13 = .ok (.iload_n 2, 1) := by decide +kernel
theorem dX11_movePlan_14 : decode cX11_movePlan 14 = .ok (.aload_n 0, 1) := by decide +kernel
theorem dX11_movePlan_15 : decode cX11_movePlan 15 = .ok (.invokevirtual 126, 3) := by decide +kernel
theorem dX11_movePlan_18 : decode cX11_movePlan 18 = .ok (.sipush 499, 3) := by decide +kernel
theorem dX11_movePlan_21 : decode cX11_movePlan 21 = .ok (.invokestatic 90, 3) := by decide +kernel
theorem dX11_movePlan_24 : decode cX11_movePlan 24 = .ok (.ifCond .eq 7, 3) := by decide +kernel
theorem dX11_movePlan_27 : decode cX11_movePlan 27 = .ok (.iconst 0, 1) := by decide +kernel
theorem dX11_movePlan_28 : decode cX11_movePlan 28 = .ok (.goto 4, 3) := by decide +kernel
theorem dX11_movePlan_31 : decode cX11_movePlan 31 = .ok (.iconst 2, 1) := by decide +kernel
theorem dX11_movePlan_32 : decode cX11_movePlan 32 = .ok (.putfield 77, 3) := by decide +kernel
theorem dX11_movePlan_35 : decode cX11_movePlan 35 = .ok (.aload_n 0, 1) := by decide +kernel
theorem dX11_movePlan_36 : decode cX11_movePlan 36 = .ok (.getfield 77, 3) := by decide +kernel
theorem dX11_movePlan_39 : decode cX11_movePlan 39 = .ok (.ifCond .eq 5, 3) := by decide +kernel
theorem dX11_movePlan_42 : decode cX11_movePlan 42 = .ok (.iconst 0, 1) := by decide +kernel
theorem dX11_movePlan_43 : decode cX11_movePlan 43 = .ok (.ireturn, 1) := by decide +kernel
theorem dX11_movePlan_44 : decode cX11_movePlan 44 = .ok (.aload_n 0, 1) := by decide +kernel
theorem dX11_movePlan_45 : decode cX11_movePlan 45 = .ok (.getfield 9, 3) := by decide +kernel
theorem dX11_movePlan_48 : decode cX11_movePlan 48 = .ok (.iload_n 1, 1) := by decide +kernel
theorem dX11_movePlan_49 : decode cX11_movePlan 49 = .ok (.iconst 3, 1) := by decide +kernel
theorem dX11_movePlan_50 : decode cX11_movePlan 50 = .ok (.invokestatic 164, 3) := by decide +kernel
theorem dX11_movePlan_53 : decode cX11_movePlan 53 = .ok (.iaload, 1) := by decide +kernel
theorem dX11_movePlan_54 : decode cX11_movePlan 54 = .ok (.istore_n 3, 1) := by decide +kernel
theorem dX11_movePlan_55 : decode cX11_movePlan 55 = .ok (.iload_n 3, 1) := by decide +kernel
theorem dX11_movePlan_56 : decode cX11_movePlan 56 = .ok (.aload_n 0, 1) := by decide +kernel
theorem dX11_movePlan_57 : decode cX11_movePlan 57 = .ok (.invokevirtual 126, 3) := by decide +kernel
theorem dX11_movePlan_60 : decode cX11_movePlan 60 = .ok (.if_icmp .ge 6, 3) := by decide +kernel
theorem dX11_movePlan_63 : decode cX11_movePlan 63 = .ok (.bipush (-2), 2) := by decide +kernel
theorem dX11_movePlan_65 : decode cX11_movePlan 65 = .ok (.ireturn, 1) := by decide +kernel
theorem dX11_movePlan_66 : decode cX11_movePlan 66 = .ok (.aload_n 0, 1) := by decide +kernel
theorem dX11_movePlan_67 : decode cX11_movePlan 67 = .ok (.invokevirtual 232, 3) := by decide +kernel
theorem dX11_movePlan_70 : decode cX11_movePlan 70 = .ok (.aload_n 0, 1) := by decide +kernel
theorem dX11_movePlan_71 : decode cX11_movePlan 71 = .ok (.getfield 9, 3) := by decide +kernel
theorem dX11_movePlan_74 : decode cX11_movePlan 74 = .ok (.iload_n 1, 1) := by decide +kernel
theorem dX11_movePlan_75 : decode cX11_movePlan 75 = .ok (.iconst 3, 1) := by decide +kernel
theorem dX11_movePlan_76 : decode cX11_movePlan 76 = .ok (.invokestatic 164, 3) := by decide +kernel
theorem dX11_movePlan_79 : decode cX11_movePlan 79 = .ok (.iload_n 2, 1) := by decide +kernel
theorem dX11_movePlan_80 : decode cX11_movePlan 80 = .ok (.iastore, 1) := by decide +kernel
theorem dX11_movePlan_81 : decode cX11_movePlan 81 = .ok (.iload_n 3, 1) := by decide +kernel
theorem dX11_movePlan_82 : decode cX11_movePlan 82 = .ok (.ireturn, 1) := by decide +kernel
theorem dX11_setPatience_0 : decode cX11_setPatience 0 = .ok (.aload_n 0, 1) := by decide +kernel
theorem dX11_setPatience_1 : decode cX11_setPatience 1 = .ok (.iconst 0, 1) := by decide +kernel
theorem dX11_setPatience_2 : decode cX11_setPatience 2 = .ok (.putfield 77, 3) := by decide +kernel
theorem dX11_setPatience_5 : decode cX11_setPatience 5 = .ok (.iload_n 1, 1) := by decide +kernel
theorem dX11_setPatience_6 : decode cX11_setPatience 6 = .ok (.iconst 1, 1) := by decide +kernel
theorem dX11_setPatience_7 : decode cX11_setPatience 7 = .ok (.bipush 30, 2) := by decide +kernel
theorem dX11_setPatience_9 : decode cX11_setPatience 9 = .ok (.invokestatic 90, 3) := by decide +kernel
theorem dX11_setPatience_12 : decode cX11_setPatience 12 = .ok (.ifCond .ne 9, 3) := by decide +kernel
theorem dX11_setPatience_15 : decode cX11_setPatience 15 = .ok (.aload_n 0, 1) := by decide +kernel
theorem dX11_setPatience_16 : decode cX11_setPatience 16 = .ok (.iconst 1, 1) := by decide +kernel
theorem dX11_setPatience_17 : decode cX11_setPatience 17 = .ok (.invokevirtual 192, 3) := by decide +kernel
theorem dX11_setPatience_20 : decode cX11_setPatience 20 = .ok (.ireturn, 1) := by decide +kernel
theorem dX11_setPatience_21 : decode cX11_setPatience 21 = .ok (.aload_n 0, 1) := by decide +kernel
theorem dX11_setPatience_22 : decode cX11_setPatience 22 = .ok (.invokevirtual 232, 3) := by decide +kernel
theorem dX11_setPatience_25 : decode cX11_setPatience 25 = .ok (.aload_n 0, 1) := by decide +kernel
theorem dX11_setPatience_26 : decode cX11_setPatience 26 = .ok (.getfield 9, 3) := by decide +kernel
theorem dX11_setPatience_29 : decode cX11_setPatience 29 = .ok (.bipush 9, 2) := by decide +kernel
theorem dX11_setPatience_31 : decode cX11_setPatience 31 = .ok (.iaload, 1) := by decide +kernel
theorem dX11_setPatience_32 : decode cX11_setPatience 32 = .ok (.istore_n 2, 1) := by decide +kernel
theorem dX11_setPatience_33 : decode cX11_setPatience 33 = .ok (.aload_n 0, 1) := by decide +kernel
theorem dX11_setPatience_34 : decode cX11_setPatience 34 = .ok (.getfield 9, 3) := by decide +kernel
theorem dX11_setPatience_37 : decode cX11_setPatience 37 = .ok (.bipush 9, 2) := by decide +kernel
theorem dX11_setPatience_39 : decode cX11_setPatience 39 = .ok (.iload_n 1, 1) := by decide +kernel
theorem dX11_setPatience_40 : decode cX11_setPatience 40 = .ok (.iastore, 1) := by decide +kernel
theorem dX11_setPatience_41 : decode cX11_setPatience 41 = .ok (.iload_n 2, 1) := by decide +kernel
theorem dX11_setPatience_42 : decode cX11_setPatience 42 = .ok (.ireturn, 1) := by decide +kernel
theorem dX11_lowestIn_0 : decode cX11_lowestIn 0 = .ok (.iconst 0, 1) := by decide +kernel
theorem dX11_lowestIn_1 : decode cX11_lowestIn 1 = .ok (.istore_n 3, 1) := by decide +kernel
theorem dX11_lowestIn_2 : decode cX11_lowestIn 2 = .ok (.iload_n 3, 1) := by decide +kernel
theorem dX11_lowestIn_3 : decode cX11_lowestIn 3 = .ok (.aload_n 0, 1) := by decide +kernel
theorem dX11_lowestIn_4 : decode cX11_lowestIn 4 = .ok (.getfield 9, 3) := by decide +kernel
theorem dX11_lowestIn_7 : decode cX11_lowestIn 7 = .ok (.iconst 2, 1) := by decide +kernel
theorem dX11_lowestIn_8 : decode cX11_lowestIn 8 = .ok (.iaload, 1) := by decide +kernel
theorem dX11_lowestIn_9 : decode cX11_lowestIn 9 = .ok (.if_icmp .ge 31, 3) := by decide +kernel
theorem dX11_lowestIn_12 : decode cX11_lowestIn 12 = .ok (.aload_n 0, 1) := by decide +kernel
theorem dX11_lowestIn_13 : decode cX11_lowestIn 13 = .ok (.iload_n 3, 1) := by decide +kernel
theorem dX11_lowestIn_14 : decode cX11_lowestIn 14 = .ok (.iconst 0, 1) := by decide +kernel
theorem dX11_lowestIn_15 : decode cX11_lowestIn 15 = .ok (.invokevirtual 133, 3) := by decide +kernel
theorem dX11_lowestIn_18 : decode cX11_lowestIn 18 = .ok (.iload_n 1, 1) := by decide +kernel
theorem dX11_lowestIn_19 : decode cX11_lowestIn 19 = .ok (.if_icmp .ne 15, 3) := by decide +kernel
theorem dX11_lowestIn_22 : decode cX11_lowestIn 22 = .ok (.aload_n 0, 1) := by decide +kernel
theorem dX11_lowestIn_23 : decode cX11_lowestIn 23 = .ok (.iload_n 3, 1) := by decide +kernel
theorem dX11_lowestIn_24 : decode cX11_lowestIn 24 = .ok (.iconst 1, 1) := by decide +kernel
theorem dX11_lowestIn_25 : decode cX11_lowestIn 25 = .ok (.invokevirtual 133, 3) := by decide +kernel
theorem dX11_lowestIn_28 : decode cX11_lowestIn 28 = .ok (.iload_n 2, 1) := by decide +kernel
theorem dX11_lowestIn_29 : decode cX11_lowestIn 29 = .ok (.if_icmp .ne 5, 3) := by decide +kernel
theorem dX11_lowestIn_32 : decode cX11_lowestIn 32 = .ok (.iload_n 3, 1) := by decide +kernel
theorem dX11_lowestIn_33 : decode cX11_lowestIn 33 = .ok (.ireturn, 1) := by decide +kernel
theorem dX11_lowestIn_34 : decode cX11_lowestIn 34 = .ok (.iinc 3 1, 3) := by decide +kernel
theorem dX11_lowestIn_37 : decode cX11_lowestIn 37 = .ok (.goto (-35), 3) := by decide +kernel
theorem dX11_lowestIn_40 : decode cX11_lowestIn 40 = .ok (.iconst (-1), 1) := by decide +kernel
theorem dX11_lowestIn_41 : decode cX11_lowestIn 41 = .ok (.ireturn, 1) := by decide +kernel
theorem dX11_hasMessenger_0 : decode cX11_hasMessenger 0 = .ok (.iconst 0, 1) := by decide +kernel
theorem dX11_hasMessenger_1 : decode cX11_hasMessenger 1 = .ok (.istore_n 3, 1) := by decide +kernel
theorem dX11_hasMessenger_2 : decode cX11_hasMessenger 2 = .ok (.iload_n 3, 1) := by decide +kernel
theorem dX11_hasMessenger_3 : decode cX11_hasMessenger 3 = .ok (.aload_n 0, 1) := by decide +kernel
theorem dX11_hasMessenger_4 : decode cX11_hasMessenger 4 = .ok (.getfield 9, 3) := by decide +kernel
theorem dX11_hasMessenger_7 : decode cX11_hasMessenger 7 = .ok (.iconst 4, 1) := by decide +kernel
theorem dX11_hasMessenger_8 : decode cX11_hasMessenger 8 = .ok (.iaload, 1) := by decide +kernel
theorem dX11_hasMessenger_9 : decode cX11_hasMessenger 9 = .ok (.if_icmp .ge 42, 3) := by decide +kernel
theorem dX11_hasMessenger_12 : decode cX11_hasMessenger 12 = .ok (.aload_n 0, 1) := by decide +kernel
theorem dX11_hasMessenger_13 : decode cX11_hasMessenger 13 = .ok (.iload_n 3, 1) := by decide +kernel
theorem dX11_hasMessenger_14 : decode cX11_hasMessenger 14 = .ok (.iconst 3, 1) := by decide +kernel
theorem dX11_hasMessenger_15 : decode cX11_hasMessenger 15 = .ok (.invokevirtual 130, 3) := by decide +kernel
theorem dX11_hasMessenger_18 : decode cX11_hasMessenger 18 = .ok (.ifCond .ne 27, 3) := by decide +kernel
theorem dX11_hasMessenger_21 : decode cX11_hasMessenger 21 = .ok (.aload_n 0, 1) := by decide +kernel
theorem dX11_hasMessenger_22 : decode cX11_hasMessenger 22 = .ok (.iload_n 3, 1) := by decide +kernel
theorem dX11_hasMessenger_23 : decode cX11_hasMessenger 23 = .ok (.bipush 7, 2) := by decide +kernel
theorem dX11_hasMessenger_25 : decode cX11_hasMessenger 25 = .ok (.invokevirtual 130, 3) := by decide +kernel
theorem dX11_hasMessenger_28 : decode cX11_hasMessenger 28 = .ok (.iload_n 1, 1) := by decide +kernel
theorem dX11_hasMessenger_29 : decode cX11_hasMessenger 29 = .ok (.if_icmp .ne 16, 3) := by decide +kernel
theorem dX11_hasMessenger_32 : decode cX11_hasMessenger 32 = .ok (.aload_n 0, 1) := by decide +kernel
theorem dX11_hasMessenger_33 : decode cX11_hasMessenger 33 = .ok (.iload_n 3, 1) := by decide +kernel
theorem dX11_hasMessenger_34 : decode cX11_hasMessenger 34 = .ok (.bipush 8, 2) := by decide +kernel
theorem dX11_hasMessenger_36 : decode cX11_hasMessenger 36 = .ok (.invokevirtual 130, 3) := by decide +kernel
theorem dX11_hasMessenger_39 : decode cX11_hasMessenger 39 = .ok (.iload_n 2, 1) := by decide +kernel
theorem dX11_hasMessenger_40 : decode cX11_hasMessenger 40 = .ok (.if_icmp .ne 5, 3) := by decide +kernel
theorem dX11_hasMessenger_43 : decode cX11_hasMessenger 43 = .ok (.iconst 1, 1) := by decide +kernel
theorem dX11_hasMessenger_44 : decode cX11_hasMessenger 44 = .ok (.ireturn, 1) := by decide +kernel
theorem dX11_hasMessenger_45 : decode cX11_hasMessenger 45 = .ok (.iinc 3 1, 3) := by decide +kernel
theorem dX11_hasMessenger_48 : decode cX11_hasMessenger 48 = .ok (.goto (-46), 3) := by decide +kernel
theorem dX11_hasMessenger_51 : decode cX11_hasMessenger 51 = .ok (.iconst 0, 1) := by decide +kernel
theorem dX11_hasMessenger_52 : decode cX11_hasMessenger 52 = .ok (.ireturn, 1) := by decide +kernel
theorem dX11_symbol_0 : decode cX11_symbol 0 = .ok (.aload_n 0, 1) := by decide +kernel
theorem dX11_symbol_1 : decode cX11_symbol 1 = .ok (.iload_n 1, 1) := by decide +kernel
theorem dX11_symbol_2 : decode cX11_symbol 2 = .ok (.iload_n 2, 1) := by decide +kernel
theorem dX11_symbol_3 : decode cX11_symbol 3 = .ok (.invokevirtual 241, 3) := by decide +kernel
theorem dX11_symbol_6 : decode cX11_symbol 6 = .ok (.istore_n 3, 1) := by decide +kernel
theorem dX11_symbol_7 : decode cX11_symbol 7 = .ok (.iload_n 3, 1) := by decide +kernel
theorem dX11_symbol_8 : decode cX11_symbol 8 = .ok (.iconst (-1), 1) := by decide +kernel
theorem dX11_symbol_9 : decode cX11_symbol 9 = .ok (.if_icmp .eq 8, 3) := by decide +kernel
theorem dX11_symbol_12 : decode cX11_symbol 12 = .ok (.bipush 48, 2) := by decide +kernel
theorem dX11_symbol_14 : decode cX11_symbol 14 = .ok (.iload_n 3, 1) := by decide +kernel
theorem dX11_symbol_15 : decode cX11_symbol 15 = .ok (.iadd, 1) := by decide +kernel
theorem dX11_symbol_16 : decode cX11_symbol 16 = .ok (.ireturn, 1) := by decide +kernel
theorem dX11_symbol_17 : decode cX11_symbol 17 = .ok (.aload_n 0, 1) := by decide +kernel
theorem dX11_symbol_18 : decode cX11_symbol 18 = .ok (.iload_n 1, 1) := by decide +kernel
theorem dX11_symbol_19 : decode cX11_symbol 19 = .ok (.iload_n 2, 1) := by decide +kernel
theorem dX11_symbol_20 : decode cX11_symbol 20 = .ok (.invokevirtual 244, 3) := by decide +kernel
theorem dX11_symbol_23 : decode cX11_symbol 23 = .ok (.ifCond .eq 6, 3) := by decide +kernel
theorem dX11_symbol_26 : decode cX11_symbol 26 = .ok (.bipush 109, 2) := by decide +kernel
theorem dX11_symbol_28 : decode cX11_symbol 28 = .ok (.ireturn, 1) := by decide +kernel
theorem dX11_symbol_29 : decode cX11_symbol 29 = .ok (.aload_n 0, 1) := by decide +kernel
theorem dX11_symbol_30 : decode cX11_symbol 30 = .ok (.getfield 9, 3) := by decide +kernel
theorem dX11_symbol_33 : decode cX11_symbol 33 = .ok (.bipush 10, 2) := by decide +kernel
theorem dX11_symbol_35 : decode cX11_symbol 35 = .ok (.iaload, 1) := by decide +kernel
theorem dX11_symbol_36 : decode cX11_symbol 36 = .ok (.iload_n 1, 1) := by decide +kernel
theorem dX11_symbol_37 : decode cX11_symbol 37 = .ok (.if_icmp .ne 17, 3) := by decide +kernel
theorem dX11_symbol_40 : decode cX11_symbol 40 = .ok (.aload_n 0, 1) := by decide +kernel
theorem dX11_symbol_41 : decode cX11_symbol 41 = .ok (.getfield 9, 3) := by decide +kernel
theorem dX11_symbol_44 : decode cX11_symbol 44 = .ok (.bipush 11, 2) := by decide +kernel
theorem dX11_symbol_46 : decode cX11_symbol 46 = .ok (.iaload, 1) := by decide +kernel
theorem dX11_symbol_47 : decode cX11_symbol 47 = .ok (.iload_n 2, 1) := by decide +kernel
theorem dX11_symbol_48 : decode cX11_symbol 48 = .ok (.if_icmp .ne 6, 3) := by decide +kernel
theorem dX11_symbol_51 : decode cX11_symbol 51 = .ok (.bipush 104, 2) := by decide +kernel
theorem dX11_symbol_53 : decode cX11_symbol 53 = .ok (.ireturn, 1) := by decide +kernel
theorem dX11_symbol_54 : decode cX11_symbol 54 = .ok (.aload_n 0, 1) := by decide +kernel
theorem dX11_symbol_55 : decode cX11_symbol 55 = .ok (.iload_n 1, 1) := by decide +kernel
theorem dX11_symbol_56 : decode cX11_symbol 56 = .ok (.iload_n 2, 1) := by decide +kernel
theorem dX11_symbol_57 : decode cX11_symbol 57 = .ok (.aload_n 0, 1) := by decide +kernel
theorem dX11_symbol_58 : decode cX11_symbol 58 = .ok (.invokevirtual 126, 3) := by decide +kernel
theorem dX11_symbol_61 : decode cX11_symbol 61 = .ok (.invokevirtual 146, 3) := by decide +kernel
theorem dX11_symbol_64 : decode cX11_symbol 64 = .ok (.iconst (-1), 1) := by decide +kernel
theorem dX11_symbol_65 : decode cX11_symbol 65 = .ok (.if_icmp .eq 8, 3) := by decide +kernel
theorem dX11_symbol_68 : decode cX11_symbol 68 = .ok (.bipush 33, 2) := by decide +kernel
theorem dX11_symbol_70 : decode cX11_symbol 70 = .ok (.goto 19, 3) := by decide +kernel
theorem dX11_symbol_73 : decode cX11_symbol 73 = .ok (.aload_n 0, 1) := by decide +kernel
theorem dX11_symbol_74 : decode cX11_symbol 74 = .ok (.iload_n 1, 1) := by decide +kernel
theorem dX11_symbol_75 : decode cX11_symbol 75 = .ok (.iload_n 2, 1) := by decide +kernel
theorem dX11_symbol_76 : decode cX11_symbol 76 = .ok (.invokevirtual 101, 3) := by decide +kernel
theorem dX11_symbol_79 : decode cX11_symbol 79 = .ok (.ifCond .eq 8, 3) := by decide +kernel
theorem dX11_symbol_82 : decode cX11_symbol 82 = .ok (.bipush 46, 2) := by decide +kernel
theorem dX11_symbol_84 : decode cX11_symbol 84 = .ok (.goto 5, 3) := by decide +kernel
theorem dX11_symbol_87 : decode cX11_symbol 87 = .ok (.bipush 35, 2) := by decide +kernel
theorem dX11_symbol_89 : decode cX11_symbol 89 = .ok (.ireturn, 1) := by decide +kernel
theorem dX11_format_0 : decode cX11_format 0 = .ok (.aload_n 0, 1) := by decide +kernel
theorem dX11_format_1 : decode cX11_format 1 = .ok (.iconst 0, 1) := by decide +kernel
theorem dX11_format_2 : decode cX11_format 2 = .ok (.putfield 77, 3) := by decide +kernel
theorem dX11_format_5 : decode cX11_format 5 = .ok (.iload_n 1, 1) := by decide +kernel
theorem dX11_format_6 : decode cX11_format 6 = .ok (.iconst 0, 1) := by decide +kernel
theorem dX11_format_7 : decode cX11_format 7 = .ok (.aload_n 0, 1) := by decide +kernel
theorem dX11_format_8 : decode cX11_format 8 = .ok (.getfield 9, 3) := by decide +kernel
theorem dX11_format_11 : decode cX11_format 11 = .ok (.iconst 1, 1) := by decide +kernel
theorem dX11_format_12 : decode cX11_format 12 = .ok (.iaload, 1) := by decide +kernel
theorem dX11_format_13 : decode cX11_format 13 = .ok (.iconst 1, 1) := by decide +kernel
theorem dX11_format_14 : decode cX11_format 14 = .ok (.isub, 1) := by decide +kernel
theorem dX11_format_15 : decode cX11_format 15 = .ok (.invokestatic 90, 3) := by decide +kernel
theorem dX11_format_18 : decode cX11_format 18 = .ok (.ifCond .ne 9, 3) := by decide +kernel
theorem dX11_format_21 : decode cX11_format 21 = .ok (.aload_n 0, 1) := by decide +kernel
theorem dX11_format_22 : decode cX11_format 22 = .ok (.iconst 1, 1) := by decide +kernel
theorem dX11_format_23 : decode cX11_format 23 = .ok (.invokevirtual 192, 3) := by decide +kernel
theorem dX11_format_26 : decode cX11_format 26 = .ok (.ireturn, 1) := by decide +kernel
theorem dX11_format_27 : decode cX11_format 27 = .ok (.aload_n 0, 1) := by decide +kernel
theorem dX11_format_28 : decode cX11_format 28 = .ok (.aload_n 0, 1) := by decide +kernel
theorem dX11_format_29 : decode cX11_format 29 = .ok (.getfield 9, 3) := by decide +kernel
theorem dX11_format_32 : decode cX11_format 32 = .ok (.iconst 0, 1) := by decide +kernel
theorem dX11_format_33 : decode cX11_format 33 = .ok (.iaload, 1) := by decide +kernel
theorem dX11_format_34 : decode cX11_format 34 = .ok (.putfield 247, 3) := by decide +kernel
theorem dX11_format_37 : decode cX11_format 37 = .ok (.iconst 0, 1) := by decide +kernel
theorem dX11_format_38 : decode cX11_format 38 = .ok (.istore_n 2, 1) := by decide +kernel
theorem dX11_format_39 : decode cX11_format 39 = .ok (.iload_n 2, 1) := by decide +kernel
theorem dX11_format_40 : decode cX11_format 40 = .ok (.aload_n 0, 1) := by decide +kernel
theorem dX11_format_41 : decode cX11_format 41 = .ok (.getfield 247, 3) := by decide +kernel
theorem dX11_format_44 : decode cX11_format 44 = .ok (.if_icmp .ge 21, 3) := by decide +kernel
theorem dX11_format_47 : decode cX11_format 47 = .ok (.aload_n 0, 1) := by decide +kernel
theorem dX11_format_48 : decode cX11_format 48 = .ok (.getfield 32, 3) := by decide +kernel
theorem dX11_format_51 : decode cX11_format 51 = .ok (.iload_n 2, 1) := by decide +kernel
theorem dX11_format_52 : decode cX11_format 52 = .ok (.aload_n 0, 1) := by decide +kernel
theorem dX11_format_53 : decode cX11_format 53 = .ok (.iload_n 2, 1) := by decide +kernel
theorem dX11_format_54 : decode cX11_format 54 = .ok (.iload_n 1, 1) := by decide +kernel
theorem dX11_format_55 : decode cX11_format 55 = .ok (.invokevirtual 250, 3) := by decide +kernel
theorem dX11_format_58 : decode cX11_format 58 = .ok (.iastore, 1) := by decide +kernel
theorem dX11_format_59 : decode cX11_format 59 = .ok (.iinc 2 1, 3) := by decide +kernel
theorem dX11_format_62 : decode cX11_format 62 = .ok (.goto (-23), 3) := by decide +kernel
theorem dX11_format_65 : decode cX11_format 65 = .ok (.aload_n 0, 1) := by decide +kernel
theorem dX11_format_66 : decode cX11_format 66 = .ok (.getfield 247, 3) := by decide +kernel
theorem dX11_format_69 : decode cX11_format 69 = .ok (.ireturn, 1) := by decide +kernel
theorem dX11_formattedByte_0 : decode cX11_formattedByte 0 = .ok (.aload_n 0, 1) := by decide +kernel
theorem dX11_formattedByte_1 : decode cX11_formattedByte 1 = .ok (.iconst 0, 1) := by decide +kernel
theorem dX11_formattedByte_2 : decode cX11_formattedByte 2 = .ok (.putfield 77, 3) := by decide +kernel
theorem dX11_formattedByte_5 : decode cX11_formattedByte 5 = .ok (.iload_n 1, 1) := by decide +kernel
theorem dX11_formattedByte_6 : decode cX11_formattedByte 6 = .ok (.iconst 0, 1) := by decide +kernel
theorem dX11_formattedByte_7 : decode cX11_formattedByte 7 = .ok (.aload_n 0, 1) := by decide +kernel
theorem dX11_formattedByte_8 : decode cX11_formattedByte 8 = .ok (.getfield 247, 3) := by decide +kernel
theorem dX11_formattedByte_11 : decode cX11_formattedByte 11 = .ok (.iconst 1, 1) := by decide +kernel
theorem dX11_formattedByte_12 : decode cX11_formattedByte 12 = .ok (.isub, 1) := by decide +kernel
theorem dX11_formattedByte_13 : decode cX11_formattedByte 13 = .ok (.invokestatic 90, 3) := by decide +kernel
theorem dX11_formattedByte_16 : decode cX11_formattedByte 16 = .ok (.ifCond .eq 12, 3) := by decide +kernel
theorem dX11_formattedByte_19 : decode cX11_formattedByte 19 = .ok (.aload_n 0, 1) := by decide +kernel
theorem dX11_formattedByte_20 : decode cX11_formattedByte 20 = .ok (.getfield 32, 3) := by decide +kernel
theorem dX11_formattedByte_23 : decode cX11_formattedByte 23 = .ok (.iload_n 1, 1) := by decide +kernel
theorem dX11_formattedByte_24 : decode cX11_formattedByte 24 = .ok (.iaload, 1) := by decide +kernel
theorem dX11_formattedByte_25 : decode cX11_formattedByte 25 = .ok (.goto 4, 3) := by decide +kernel
theorem dX11_formattedByte_28 : decode cX11_formattedByte 28 = .ok (.iconst (-1), 1) := by decide +kernel
theorem dX11_formattedByte_29 : decode cX11_formattedByte 29 = .ok (.ireturn, 1) := by decide +kernel
theorem dX11_copy_0 : decode cX11_copy 0 = .ok (.iconst 0, 1) := by decide +kernel
theorem dX11_copy_1 : decode cX11_copy 1 = .ok (.istore 4, 2) := by decide +kernel
theorem dX11_copy_3 : decode cX11_copy 3 = .ok (.iload 4, 2) := by decide +kernel
theorem dX11_copy_5 : decode cX11_copy 5 = .ok (.sipush 3934, 3) := by decide +kernel
theorem dX11_copy_8 : decode cX11_copy 8 = .ok (.if_icmp .ge 29, 3) := by decide +kernel
theorem dX11_copy_11 : decode cX11_copy 11 = .ok (.aload_n 2, 1) := by decide +kernel
theorem dX11_copy_12 : decode cX11_copy 12 = .ok (.sipush 3934, 3) := by decide +kernel
theorem dX11_copy_15 : decode cX11_copy 15 = .ok (.iload_n 3, 1) := by decide +kernel
theorem dX11_copy_16 : decode cX11_copy 16 = .ok (.imul, 1) := by decide +kernel
theorem dX11_copy_17 : decode cX11_copy 17 = .ok (.iload 4, 2) := by decide +kernel
theorem dX11_copy_19 : decode cX11_copy 19 = .ok (.iadd, 1) := by decide +kernel
theorem dX11_copy_20 : decode cX11_copy 20 = .ok (.aload_n 0, 1) := by decide +kernel
theorem dX11_copy_21 : decode cX11_copy 21 = .ok (.sipush 3934, 3) := by decide +kernel
theorem dX11_copy_24 : decode cX11_copy 24 = .ok (.iload_n 1, 1) := by decide +kernel
theorem dX11_copy_25 : decode cX11_copy 25 = .ok (.imul, 1) := by decide +kernel
theorem dX11_copy_26 : decode cX11_copy 26 = .ok (.iload 4, 2) := by decide +kernel
theorem dX11_copy_28 : decode cX11_copy 28 = .ok (.iadd, 1) := by decide +kernel
theorem dX11_copy_29 : decode cX11_copy 29 = .ok (.iaload, 1) := by decide +kernel
theorem dX11_copy_30 : decode cX11_copy 30 = .ok (.iastore, 1) := by decide +kernel
theorem dX11_copy_31 : decode cX11_copy 31 = .ok (.iinc 4 1, 3) := by decide +kernel
theorem dX11_copy_34 : decode cX11_copy 34 = .ok (.goto (-31), 3) := by decide +kernel
theorem dX11_copy_37 : decode cX11_copy 37 = .ok (.return_, 1) := by decide +kernel
theorem dX11_record_0 : decode cX11_record 0 = .ok (.aload_n 0, 1) := by decide +kernel
theorem dX11_record_1 : decode cX11_record 1 = .ok (.getfield 253, 3) := by decide +kernel
theorem dX11_record_4 : decode cX11_record 4 = .ok (.bipush 10, 2) := by decide +kernel
theorem dX11_record_6 : decode cX11_record 6 = .ok (.if_icmp .ne 42, 3) := by decide +kernel
theorem dX11_record_9 : decode cX11_record 9 = .ok (.iconst 1, 1) := by decide +kernel
theorem dX11_record_10 : decode cX11_record 10 = .ok (.istore_n 1, 1) := by decide +kernel
theorem dX11_record_11 : decode cX11_record 11 = .ok (.iload_n 1, 1) := by decide +kernel
theorem dX11_record_12 : decode cX11_record 12 = .ok (.bipush 10, 2) := by decide +kernel
theorem dX11_record_14 : decode cX11_record 14 = .ok (.if_icmp .ge 24, 3) := by decide +kernel
theorem dX11_record_17 : decode cX11_record 17 = .ok (.aload_n 0, 1) := by decide +kernel
theorem dX11_record_18 : decode cX11_record 18 = .ok (.getfield 23, 3) := by decide +kernel
theorem dX11_record_21 : decode cX11_record 21 = .ok (.iload_n 1, 1) := by decide +kernel
theorem dX11_record_22 : decode cX11_record 22 = .ok (.aload_n 0, 1) := by decide +kernel
theorem dX11_record_23 : decode cX11_record 23 = .ok (.getfield 23, 3) := by decide +kernel
theorem dX11_record_26 : decode cX11_record 26 = .ok (.iload_n 1, 1) := by decide +kernel
theorem dX11_record_27 : decode cX11_record 27 = .ok (.iconst 1, 1) := by decide +kernel
theorem dX11_record_28 : decode cX11_record 28 = .ok (.isub, 1) := by decide +kernel
theorem dX11_record_29 : decode cX11_record 29 = .ok (.invokestatic 213, 3) := by decide +kernel
theorem dX11_record_32 : decode cX11_record 32 = .ok (.iinc 1 1, 3) := by decide +kernel
theorem dX11_record_35 : decode cX11_record 35 = .ok (.goto (-24), 3) := by decide +kernel
theorem dX11_record_38 : decode cX11_record 38 = .ok (.aload_n 0, 1) := by decide +kernel
theorem dX11_record_39 : decode cX11_record 39 = .ok (.dup, 1) := by decide +kernel
theorem dX11_record_40 : decode cX11_record 40 = .ok (.getfield 253, 3) := by decide +kernel
theorem dX11_record_43 : decode cX11_record 43 = .ok (.iconst 1, 1) := by decide +kernel
theorem dX11_record_44 : decode cX11_record 44 = .ok (.isub, 1) := by decide +kernel
theorem dX11_record_45 : decode cX11_record 45 = .ok (.putfield 253, 3) := by decide +kernel
theorem dX11_record_48 : decode cX11_record 48 = .ok (.aload_n 0, 1) := by decide +kernel
theorem dX11_record_49 : decode cX11_record 49 = .ok (.getfield 9, 3) := by decide +kernel
theorem dX11_record_52 : decode cX11_record 52 = .ok (.iconst 0, 1) := by decide +kernel
theorem dX11_record_53 : decode cX11_record 53 = .ok (.aload_n 0, 1) := by decide +kernel
theorem dX11_record_54 : decode cX11_record 54 = .ok (.getfield 23, 3) := by decide +kernel
theorem dX11_record_57 : decode cX11_record 57 = .ok (.aload_n 0, 1) := by decide +kernel
theorem dX11_record_58 : decode cX11_record 58 = .ok (.getfield 253, 3) := by decide +kernel
theorem dX11_record_61 : decode cX11_record 61 = .ok (.invokestatic 213, 3) := by decide +kernel
theorem dX11_record_64 : decode cX11_record 64 = .ok (.aload_n 0, 1) := by decide +kernel
theorem dX11_record_65 : decode cX11_record 65 = .ok (.dup, 1) := by decide +kernel
theorem dX11_record_66 : decode cX11_record 66 = .ok (.getfield 253, 3) := by decide +kernel
theorem dX11_record_69 : decode cX11_record 69 = .ok (.iconst 1, 1) := by decide +kernel
theorem dX11_record_70 : decode cX11_record 70 = .ok (.iadd, 1) := by decide +kernel
theorem dX11_record_71 : decode cX11_record 71 = .ok (.putfield 253, 3) := by decide +kernel
theorem dX11_record_74 : decode cX11_record 74 = .ok (.return_, 1) := by decide +kernel
theorem dX11_undoCount_0 : decode cX11_undoCount 0 = .ok (.aload_n 0, 1) := by decide +kernel
theorem dX11_undoCount_1 : decode cX11_undoCount 1 = .ok (.iconst 0, 1) := by decide +kernel
theorem dX11_undoCount_2 : decode cX11_undoCount 2 = .ok (.putfield 77, 3) := by decide +kernel
theorem dX11_undoCount_5 : decode cX11_undoCount 5 = .ok (.aload_n 0, 1) := by decide +kernel
theorem dX11_undoCount_6 : decode cX11_undoCount 6 = .ok (.getfield 253, 3) := by decide +kernel
theorem dX11_undoCount_9 : decode cX11_undoCount 9 = .ok (.ireturn, 1) := by decide +kernel
theorem dX11_undo_0 : decode cX11_undo 0 = .ok (.aload_n 0, 1) := by decide +kernel
theorem dX11_undo_1 : decode cX11_undo 1 = .ok (.iconst 0, 1) := by decide +kernel
theorem dX11_undo_2 : decode cX11_undo 2 = .ok (.putfield 77, 3) := by decide +kernel
theorem dX11_undo_5 : decode cX11_undo 5 = .ok (.aload_n 0, 1) := by decide +kernel
theorem dX11_undo_6 : decode cX11_undo 6 = .ok (.getfield 253, 3) := by decide +kernel
theorem dX11_undo_9 : decode cX11_undo 9 = .ok (.ifCond .ne 5, 3) := by decide +kernel
theorem dX11_undo_12 : decode cX11_undo 12 = .ok (.iconst (-1), 1) := by decide +kernel
theorem dX11_undo_13 : decode cX11_undo 13 = .ok (.ireturn, 1) := by decide +kernel
theorem dX11_undo_14 : decode cX11_undo 14 = .ok (.aload_n 0, 1) := by decide +kernel
theorem dX11_undo_15 : decode cX11_undo 15 = .ok (.dup, 1) := by decide +kernel
theorem dX11_undo_16 : decode cX11_undo 16 = .ok (.getfield 253, 3) := by decide +kernel
theorem dX11_undo_19 : decode cX11_undo 19 = .ok (.iconst 1, 1) := by decide +kernel
theorem dX11_undo_20 : decode cX11_undo 20 = .ok (.isub, 1) := by decide +kernel
theorem dX11_undo_21 : decode cX11_undo 21 = .ok (.putfield 253, 3) := by decide +kernel
theorem dX11_undo_24 : decode cX11_undo 24 = .ok (.aload_n 0, 1) := by decide +kernel
theorem dX11_undo_25 : decode cX11_undo 25 = .ok (.getfield 23, 3) := by decide +kernel
theorem dX11_undo_28 : decode cX11_undo 28 = .ok (.aload_n 0, 1) := by decide +kernel
theorem dX11_undo_29 : decode cX11_undo 29 = .ok (.getfield 253, 3) := by decide +kernel
theorem dX11_undo_32 : decode cX11_undo 32 = .ok (.aload_n 0, 1) := by decide +kernel
theorem dX11_undo_33 : decode cX11_undo 33 = .ok (.getfield 9, 3) := by decide +kernel
theorem dX11_undo_36 : decode cX11_undo 36 = .ok (.iconst 0, 1) := by decide +kernel
theorem dX11_undo_37 : decode cX11_undo 37 = .ok (.invokestatic 213, 3) := by decide +kernel
theorem dX11_undo_40 : decode cX11_undo 40 = .ok (.aload_n 0, 1) := by decide +kernel
theorem dX11_undo_41 : decode cX11_undo 41 = .ok (.getfield 253, 3) := by decide +kernel
theorem dX11_undo_44 : decode cX11_undo 44 = .ok (.ireturn, 1) := by decide +kernel
theorem dX11_saveSnapshot_0 : decode cX11_saveSnapshot 0 = .ok (.aload_n 0, 1) := by decide +kernel
theorem dX11_saveSnapshot_1 : decode cX11_saveSnapshot 1 = .ok (.iconst 0, 1) := by decide +kernel
theorem dX11_saveSnapshot_2 : decode cX11_saveSnapshot 2 = .ok (.putfield 77, 3) := by decide +kernel
theorem dX11_saveSnapshot_5 : decode cX11_saveSnapshot 5 = .ok (.aload_n 0, 1) := by decide +kernel
theorem dX11_saveSnapshot_6 : decode cX11_saveSnapshot 6 = .ok (.getfield 9, 3) := by decide +kernel
theorem dX11_saveSnapshot_9 : decode cX11_saveSnapshot 9 = .ok (.iconst 0, 1) := by decide +kernel
theorem dX11_saveSnapshot_10 : decode cX11_saveSnapshot 10 = .ok (.aload_n 0, 1) := by decide +kernel
theorem dX11_saveSnapshot_11 : decode cX11_saveSnapshot 11 = .ok (.getfield 19, 3) := by decide +kernel
theorem dX11_saveSnapshot_14 : decode cX11_saveSnapshot 14 = .ok (.iconst 0, 1) := by decide +kernel
theorem dX11_saveSnapshot_15 : decode cX11_saveSnapshot 15 = .ok (.invokestatic 213, 3) := by decide +kernel
theorem dX11_saveSnapshot_18 : decode cX11_saveSnapshot 18 = .ok (.aload_n 0, 1) := by decide +kernel
theorem dX11_saveSnapshot_19 : decode cX11_saveSnapshot 19 = .ok (.iconst 1, 1) := by decide +kernel
theorem dX11_saveSnapshot_20 : decode cX11_saveSnapshot 20 = .ok (.putfield 256, 3) := by decide +kernel
theorem dX11_saveSnapshot_23 : decode cX11_saveSnapshot 23 = .ok (.return_, 1) := by decide +kernel
theorem dX11_restoreSnapshot_0 : decode cX11_restoreSnapshot 0 = .ok (.aload_n 0, 1) := by decide +kernel
theorem dX11_restoreSnapshot_1 : decode cX11_restoreSnapshot 1 = .ok (.iconst 0, 1) := by decide +kernel
theorem dX11_restoreSnapshot_2 : decode cX11_restoreSnapshot 2 = .ok (.putfield 77, 3) := by decide +kernel
theorem dX11_restoreSnapshot_5 : decode cX11_restoreSnapshot 5 = .ok (.aload_n 0, 1) := by decide +kernel
theorem dX11_restoreSnapshot_6 : decode cX11_restoreSnapshot 6 = .ok (.getfield 256, 3) := by decide +kernel
theorem dX11_restoreSnapshot_9 : decode cX11_restoreSnapshot 9 = .ok (.ifCond .ne 5, 3) := by decide +kernel
theorem dX11_restoreSnapshot_12 : decode cX11_restoreSnapshot 12 = .ok (.iconst 0, 1) := by decide +kernel
theorem dX11_restoreSnapshot_13 : decode cX11_restoreSnapshot 13 = .ok (.ireturn, 1) := by decide +kernel
theorem dX11_restoreSnapshot_14 : decode cX11_restoreSnapshot 14 = .ok (.aload_n 0, 1) := by decide +kernel
theorem dX11_restoreSnapshot_15 : decode cX11_restoreSnapshot 15 = .ok (.getfield 19, 3) := by decide +kernel
theorem dX11_restoreSnapshot_18 : decode cX11_restoreSnapshot 18 = .ok (.iconst 0, 1) := by decide +kernel
theorem dX11_restoreSnapshot_19 : decode cX11_restoreSnapshot 19 = .ok (.aload_n 0, 1) := by decide +kernel
theorem dX11_restoreSnapshot_20 : decode cX11_restoreSnapshot 20 = .ok (.getfield 9, 3) := by decide +kernel
theorem dX11_restoreSnapshot_23 : decode cX11_restoreSnapshot 23 = .ok (.iconst 0, 1) := by decide +kernel
theorem dX11_restoreSnapshot_24 : decode cX11_restoreSnapshot 24 = .ok (.invokestatic 213, 3) := by decide +kernel
theorem dX11_restoreSnapshot_27 : decode cX11_restoreSnapshot 27 = .ok (.aload_n 0, 1) := by decide +kernel
theorem dX11_restoreSnapshot_28 : decode cX11_restoreSnapshot 28 = .ok (.iconst 0, 1) := by decide +kernel
theorem dX11_restoreSnapshot_29 : decode cX11_restoreSnapshot 29 = .ok (.putfield 253, 3) := by decide +kernel
theorem dX11_restoreSnapshot_32 : decode cX11_restoreSnapshot 32 = .ok (.iconst 1, 1) := by decide +kernel
theorem dX11_restoreSnapshot_33 : decode cX11_restoreSnapshot 33 = .ok (.ireturn, 1) := by decide +kernel
theorem dX11_feed_0 : decode cX11_feed 0 = .ok (.aload_n 0, 1) := by decide +kernel
theorem dX11_feed_1 : decode cX11_feed 1 = .ok (.iconst 0, 1) := by decide +kernel
theorem dX11_feed_2 : decode cX11_feed 2 = .ok (.putfield 77, 3) := by decide +kernel
theorem dX11_feed_5 : decode cX11_feed 5 = .ok (.aload_n 0, 1) := by decide +kernel
theorem dX11_feed_6 : decode cX11_feed 6 = .ok (.getfield 260, 3) := by decide +kernel
theorem dX11_feed_9 : decode cX11_feed 9 = .ok (.bipush 20, 2) := by decide +kernel
theorem dX11_feed_11 : decode cX11_feed 11 = .ok (.iadd, 1) := by decide +kernel
theorem dX11_feed_12 : decode cX11_feed 12 = .ok (.sipush 600, 3) := by decide +kernel
theorem dX11_feed_15 : decode cX11_feed 15 = .ok (.if_icmp .le 5, 3) := by decide +kernel
theorem dX11_feed_18 : decode cX11_feed 18 = .ok (.iconst (-1), 1) := by decide +kernel
theorem dX11_feed_19 : decode cX11_feed 19 = .ok (.ireturn, 1) := by decide +kernel
theorem dX11_feed_20 : decode cX11_feed 20 = .ok (.iconst 0, 1) := by decide +kernel
theorem dX11_feed_21 : decode cX11_feed 21 = .ok (.istore 6, 2) := by decide +kernel
theorem dX11_feed_23 : decode cX11_feed 23 = .ok (.iload 6, 2) := by decide +kernel
theorem dX11_feed_25 : decode cX11_feed 25 = .ok (.bipush 20, 2) := by decide +kernel
theorem dX11_feed_27 : decode cX11_feed 27 = .ok (.if_icmp .ge 93, 3) := by decide +kernel
theorem dX11_feed_30 : decode cX11_feed 30 = .ok (.iload 6, 2) := by decide +kernel
theorem dX11_feed_32 : decode cX11_feed 32 = .ok (.iconst 4, 1) := by decide +kernel
theorem dX11_feed_33 : decode cX11_feed 33 = .ok (.if_icmp .ge 7, 3) := by decide +kernel
theorem dX11_feed_36 : decode cX11_feed 36 = .ok (.iload_n 1, 1) := by decide +kernel
theorem dX11_feed_37 : decode cX11_feed 37 = .ok (.goto 39, 3) := by decide +kernel
theorem dX11_feed_40 : decode cX11_feed 40 = .ok (.iload 6, 2) := by decide +kernel
theorem dX11_feed_42 : decode cX11_feed 42 = .ok (.bipush 8, 2) := by decide +kernel
theorem dX11_feed_44 : decode cX11_feed 44 = .ok (.if_icmp .ge 7, 3) := by decide +kernel
theorem dX11_feed_47 : decode cX11_feed 47 = .ok (.iload_n 2, 1) := by decide +kernel
theorem dX11_feed_48 : decode cX11_feed 48 = .ok (.goto 28, 3) := by decide +kernel
theorem dX11_feed_51 : decode cX11_feed 51 = .ok (.iload 6, 2) := by decide +kernel
theorem dX11_feed_53 : decode cX11_feed 53 = .ok (.bipush 12, 2) := by decide +kernel
theorem dX11_feed_55 : decode cX11_feed 55 = .ok (.if_icmp .ge 7, 3) := by decide +kernel
theorem dX11_feed_58 : decode cX11_feed 58 = .ok (.iload_n 3, 1) := by decide +kernel
theorem dX11_feed_59 : decode cX11_feed 59 = .ok (.goto 17, 3) := by decide +kernel
theorem dX11_feed_62 : decode cX11_feed 62 = .ok (.iload 6, 2) := by decide +kernel
theorem dX11_feed_64 : decode cX11_feed 64 = .ok (.bipush 16, 2) := by decide +kernel
theorem dX11_feed_66 : decode cX11_feed 66 = .ok (.if_icmp .ge 8, 3) := by decide +kernel
theorem dX11_feed_69 : decode cX11_feed 69 = .ok (.iload 4, 2) := by decide +kernel
theorem dX11_feed_71 : decode cX11_feed 71 = .ok (.goto 5, 3) := by decide +kernel
theorem dX11_feed_74 : decode cX11_feed 74 = .ok (.iload 5, 2) := by decide +kernel
theorem dX11_feed_76 : decode cX11_feed 76 = .ok (.istore 7, 2) := by decide +kernel
theorem dX11_feed_78 : decode cX11_feed 78 = .ok (.aload_n 0, 1) := by decide +kernel
theorem dX11_feed_79 : decode cX11_feed 79 = .ok (.getfield 35, 3) := by decide +kernel
theorem dX11_feed_82 : decode cX11_feed 82 = .ok (.aload_n 0, 1) := by decide +kernel
theorem dX11_feed_83 : decode cX11_feed 83 = .ok (.getfield 260, 3) := by decide +kernel
theorem dX11_feed_86 : decode cX11_feed 86 = .ok (.iload 7, 2) := by decide +kernel
theorem dX11_feed_88 : decode cX11_feed 88 = .ok (.bipush 24, 2) := by decide +kernel
theorem dX11_feed_90 : decode cX11_feed 90 = .ok (.bipush 8, 2) := by decide +kernel
theorem dX11_feed_92 : decode cX11_feed 92 = .ok (.iload 6, 2) := by decide +kernel
theorem dX11_feed_94 : decode cX11_feed 94 = .ok (.iconst 4, 1) := by decide +kernel
theorem dX11_feed_95 : decode cX11_feed 95 = .ok (.irem, 1) := by decide +kernel
theorem dX11_feed_96 : decode cX11_feed 96 = .ok (.imul, 1) := by decide +kernel
theorem dX11_feed_97 : decode cX11_feed 97 = .ok (.isub, 1) := by decide +kernel
theorem dX11_feed_98 : decode cX11_feed 98 = .ok (.ishr, 1) := by decide +kernel
theorem dX11_feed_99 : decode cX11_feed 99 = .ok (.sipush 255, 3) := by decide +kernel
theorem dX11_feed_102 : decode cX11_feed 102 = .ok (.iand, 1) := by decide +kernel
theorem dX11_feed_103 : decode cX11_feed 103 = .ok (.iastore, 1) := by decide +kernel
theorem dX11_feed_104 : decode cX11_feed 104 = .ok (.aload_n 0, 1) := by decide +kernel
theorem dX11_feed_105 : decode cX11_feed 105 = .ok (.dup, 1) := by decide +kernel
theorem dX11_feed_106 : decode cX11_feed 106 = .ok (.getfield 260, 3) := by decide +kernel
theorem dX11_feed_109 : decode cX11_feed 109 = .ok (.iconst 1, 1) := by decide +kernel
theorem dX11_feed_110 : decode cX11_feed 110 = .ok (.iadd, 1) := by decide +kernel
theorem dX11_feed_111 : decode cX11_feed 111 = .ok (.putfield 260, 3) := by decide +kernel
theorem dX11_feed_114 : decode cX11_feed 114 = .ok (.iinc 6 1, 3) := by decide +kernel
theorem dX11_feed_117 : decode cX11_feed 117 = .ok (.goto (-94), 3) := by decide +kernel
theorem dX11_feed_120 : decode cX11_feed 120 = .ok (.aload_n 0, 1) := by decide +kernel
theorem dX11_feed_121 : decode cX11_feed 121 = .ok (.getfield 260, 3) := by decide +kernel
theorem dX11_feed_124 : decode cX11_feed 124 = .ok (.ireturn, 1) := by decide +kernel
theorem dX11_errorPosition_0 : decode cX11_errorPosition 0 = .ok (.aload_n 0, 1) := by decide +kernel
theorem dX11_errorPosition_1 : decode cX11_errorPosition 1 = .ok (.iconst 0, 1) := by decide +kernel
theorem dX11_errorPosition_2 : decode cX11_errorPosition 2 = .ok (.putfield 77, 3) := by decide +kernel
theorem dX11_errorPosition_5 : decode cX11_errorPosition 5 = .ok (.aload_n 0, 1) := by decide +kernel
theorem dX11_errorPosition_6 : decode cX11_errorPosition 6 = .ok (.getfield 38, 3) := by decide +kernel
theorem dX11_errorPosition_9 : decode cX11_errorPosition 9 = .ok (.ireturn, 1) := by decide +kernel
theorem dX11_byteAt_0 : decode cX11_byteAt 0 = .ok (.iload_n 1, 1) := by decide +kernel
theorem dX11_byteAt_1 : decode cX11_byteAt 1 = .ok (.aload_n 0, 1) := by decide +kernel
theorem dX11_byteAt_2 : decode cX11_byteAt 2 = .ok (.getfield 263, 3) := by decide +kernel
theorem dX11_byteAt_5 : decode cX11_byteAt 5 = .ok (.if_icmp .ge 12, 3) := by decide +kernel
theorem dX11_byteAt_8 : decode cX11_byteAt 8 = .ok (.aload_n 0, 1) := by decide +kernel
theorem dX11_byteAt_9 : decode cX11_byteAt 9 = .ok (.getfield 35, 3) := by decide +kernel
theorem dX11_byteAt_12 : decode cX11_byteAt 12 = .ok (.iload_n 1, 1) := by decide +kernel
theorem dX11_byteAt_13 : decode cX11_byteAt 13 = .ok (.iaload, 1) := by decide +kernel
theorem dX11_byteAt_14 : decode cX11_byteAt 14 = .ok (.goto 4, 3) := by decide +kernel
theorem dX11_byteAt_17 : decode cX11_byteAt 17 = .ok (.iconst (-1), 1) := by decide +kernel
theorem dX11_byteAt_18 : decode cX11_byteAt 18 = .ok (.ireturn, 1) := by decide +kernel
theorem dX11_isLetter_0 : decode cX11_isLetter 0 = .ok (.aload_n 0, 1) := by decide +kernel
theorem dX11_isLetter_1 : decode cX11_isLetter 1 = .ok (.iload_n 1, 1) := by decide +kernel
theorem dX11_isLetter_2 : decode cX11_isLetter 2 = .ok (.invokevirtual 266, 3) := by decide +kernel
theorem dX11_isLetter_5 : decode cX11_isLetter 5 = .ok (.bipush 97, 2) := by decide +kernel
theorem dX11_isLetter_7 : decode cX11_isLetter 7 = .ok (.if_icmp .lt 17, 3) := by decide +kernel
theorem dX11_isLetter_10 : decode cX11_isLetter 10 = .ok (.aload_n 0, 1) := by decide +kernel
theorem dX11_isLetter_11 : decode cX11_isLetter 11 = .ok (.iload_n 1, 1) := by decide +kernel
theorem dX11_isLetter_12 : decode cX11_isLetter 12 = .ok (.invokevirtual 266, 3) := by decide +kernel
theorem dX11_isLetter_15 : decode cX11_isLetter 15 = .ok (.bipush 122, 2) := by decide +kernel
theorem dX11_isLetter_17 : decode cX11_isLetter 17 = .ok (.if_icmp .gt 7, 3) := by decide +kernel
theorem dX11_isLetter_20 : decode cX11_isLetter 20 = .ok (.iconst 1, 1) := by decide +kernel
theorem dX11_isLetter_21 : decode cX11_isLetter 21 = .ok (.goto 4, 3) := by decide +kernel
theorem dX11_isLetter_24 : decode cX11_isLetter 24 = .ok (.iconst 0, 1) := by decide +kernel
theorem dX11_isLetter_25 : decode cX11_isLetter 25 = .ok (.ireturn, 1) := by decide +kernel
theorem dX11_isDigit_0 : decode cX11_isDigit 0 = .ok (.aload_n 0, 1) := by decide +kernel
theorem dX11_isDigit_1 : decode cX11_isDigit 1 = .ok (.iload_n 1, 1) := by decide +kernel
theorem dX11_isDigit_2 : decode cX11_isDigit 2 = .ok (.invokevirtual 266, 3) := by decide +kernel
theorem dX11_isDigit_5 : decode cX11_isDigit 5 = .ok (.bipush 48, 2) := by decide +kernel
theorem dX11_isDigit_7 : decode cX11_isDigit 7 = .ok (.if_icmp .lt 17, 3) := by decide +kernel
theorem dX11_isDigit_10 : decode cX11_isDigit 10 = .ok (.aload_n 0, 1) := by decide +kernel
theorem dX11_isDigit_11 : decode cX11_isDigit 11 = .ok (.iload_n 1, 1) := by decide +kernel
theorem dX11_isDigit_12 : decode cX11_isDigit 12 = .ok (.invokevirtual 266, 3) := by decide +kernel
theorem dX11_isDigit_15 : decode cX11_isDigit 15 = .ok (.bipush 57, 2) := by decide +kernel
theorem dX11_isDigit_17 : decode cX11_isDigit 17 = .ok (.if_icmp .gt 7, 3) := by decide +kernel
theorem dX11_isDigit_20 : decode cX11_isDigit 20 = .ok (.iconst 1, 1) := by decide +kernel
theorem dX11_isDigit_21 : decode cX11_isDigit 21 = .ok (.goto 4, 3) := by decide +kernel
theorem dX11_isDigit_24 : decode cX11_isDigit 24 = .ok (.iconst 0, 1) := by decide +kernel
theorem dX11_isDigit_25 : decode cX11_isDigit 25 = .ok (.ireturn, 1) := by decide +kernel
theorem dX11_scan_0 : decode cX11_scan 0 = .ok (.aload_n 0, 1) := by decide +kernel
theorem dX11_scan_1 : decode cX11_scan 1 = .ok (.aload_n 0, 1) := by decide +kernel
theorem dX11_scan_2 : decode cX11_scan 2 = .ok (.getfield 269, 3) := by decide +kernel
theorem dX11_scan_5 : decode cX11_scan 5 = .ok (.invokevirtual 266, 3) := by decide +kernel
theorem dX11_scan_8 : decode cX11_scan 8 = .ok (.bipush 32, 2) := by decide +kernel
theorem dX11_scan_10 : decode cX11_scan 10 = .ok (.if_icmp .eq 16, 3) := by decide +kernel
theorem dX11_scan_13 : decode cX11_scan 13 = .ok (.aload_n 0, 1) := by decide +kernel
theorem dX11_scan_14 : decode cX11_scan 14 = .ok (.aload_n 0, 1) := by decide +kernel
theorem dX11_scan_15 : decode cX11_scan 15 = .ok (.getfield 269, 3) := by decide +kernel
theorem dX11_scan_18 : decode cX11_scan 18 = .ok (.invokevirtual 266, 3) := by decide +kernel
theorem dX11_scan_21 : decode cX11_scan 21 = .ok (.bipush 10, 2) := by decide +kernel
theorem dX11_scan_23 : decode cX11_scan 23 = .ok (.if_icmp .ne 16, 3) := by decide +kernel
theorem dX11_scan_26 : decode cX11_scan 26 = .ok (.aload_n 0, 1) := by decide +kernel
theorem dX11_scan_27 : decode cX11_scan 27 = .ok (.dup, 1) := by decide +kernel
theorem dX11_scan_28 : decode cX11_scan 28 = .ok (.getfield 269, 3) := by decide +kernel
theorem dX11_scan_31 : decode cX11_scan 31 = .ok (.iconst 1, 1) := by decide +kernel
theorem dX11_scan_32 : decode cX11_scan 32 = .ok (.iadd, 1) := by decide +kernel
theorem dX11_scan_33 : decode cX11_scan 33 = .ok (.putfield 269, 3) := by decide +kernel
theorem dX11_scan_36 : decode cX11_scan 36 = .ok (.goto (-36), 3) := by decide +kernel
theorem dX11_scan_39 : decode cX11_scan 39 = .ok (.aload_n 0, 1) := by decide +kernel
theorem dX11_scan_40 : decode cX11_scan 40 = .ok (.aload_n 0, 1) := by decide +kernel
theorem dX11_scan_41 : decode cX11_scan 41 = .ok (.getfield 269, 3) := by decide +kernel
theorem dX11_scan_44 : decode cX11_scan 44 = .ok (.putfield 272, 3) := by decide +kernel
theorem dX11_scan_47 : decode cX11_scan 47 = .ok (.aload_n 0, 1) := by decide +kernel
theorem dX11_scan_48 : decode cX11_scan 48 = .ok (.getfield 269, 3) := by decide +kernel
theorem dX11_scan_51 : decode cX11_scan 51 = .ok (.aload_n 0, 1) := by decide +kernel
theorem dX11_scan_52 : decode cX11_scan 52 = .ok (.getfield 263, 3) := by decide +kernel
theorem dX11_scan_55 : decode cX11_scan 55 = .ok (.if_icmp .lt 11, 3) := by decide +kernel
theorem dX11_scan_58 : decode cX11_scan 58 = .ok (.aload_n 0, 1) := by decide +kernel
theorem dX11_scan_59 : decode cX11_scan 59 = .ok (.iconst 0, 1) := by decide +kernel
theorem dX11_scan_60 : decode cX11_scan 60 = .ok (.putfield 275, 3) := by decide +kernel
theorem dX11_scan_63 : decode cX11_scan 63 = .ok (.goto 104, 3) := by decide +kernel
theorem dX11_scan_66 : decode cX11_scan 66 = .ok (.aload_n 0, 1) := by decide +kernel
theorem dX11_scan_67 : decode cX11_scan 67 = .ok (.aload_n 0, 1) := by decide +kernel
theorem dX11_scan_68 : decode cX11_scan 68 = .ok (.getfield 269, 3) := by decide +kernel
theorem dX11_scan_71 : decode cX11_scan 71 = .ok (.invokevirtual 278, 3) := by decide +kernel
theorem dX11_scan_74 : decode cX11_scan 74 = .ok (.ifCond .eq 35, 3) := by decide +kernel
theorem dX11_scan_77 : decode cX11_scan 77 = .ok (.aload_n 0, 1) := by decide +kernel
theorem dX11_scan_78 : decode cX11_scan 78 = .ok (.aload_n 0, 1) := by decide +kernel
theorem dX11_scan_79 : decode cX11_scan 79 = .ok (.getfield 269, 3) := by decide +kernel
theorem dX11_scan_82 : decode cX11_scan 82 = .ok (.invokevirtual 278, 3) := by decide +kernel
theorem dX11_scan_85 : decode cX11_scan 85 = .ok (.ifCond .eq 16, 3) := by decide +kernel
theorem dX11_scan_88 : decode cX11_scan 88 = .ok (.aload_n 0, 1) := by decide +kernel
theorem dX11_scan_89 : decode cX11_scan 89 = .ok (.dup, 1) := by decide +kernel
theorem dX11_scan_90 : decode cX11_scan 90 = .ok (.getfield 269, 3) := by decide +kernel
theorem dX11_scan_93 : decode cX11_scan 93 = .ok (.iconst 1, 1) := by decide +kernel
theorem dX11_scan_94 : decode cX11_scan 94 = .ok (.iadd, 1) := by decide +kernel
theorem dX11_scan_95 : decode cX11_scan 95 = .ok (.putfield 269, 3) := by decide +kernel
theorem dX11_scan_98 : decode cX11_scan 98 = .ok (.goto (-21), 3) := by decide +kernel
theorem dX11_scan_101 : decode cX11_scan 101 = .ok (.aload_n 0, 1) := by decide +kernel
theorem dX11_scan_102 : decode cX11_scan 102 = .ok (.iconst 1, 1) := by decide +kernel
theorem dX11_scan_103 : decode cX11_scan 103 = .ok (.putfield 275, 3) := by decide +kernel
theorem dX11_scan_106 : decode cX11_scan 106 = .ok (.goto 61, 3) := by decide +kernel
theorem dX11_scan_109 : decode cX11_scan 109 = .ok (.aload_n 0, 1) := by decide +kernel
theorem dX11_scan_110 : decode cX11_scan 110 = .ok (.aload_n 0, 1) := by decide +kernel
theorem dX11_scan_111 : decode cX11_scan 111 = .ok (.getfield 269, 3) := by decide +kernel
theorem dX11_scan_114 : decode cX11_scan 114 = .ok (.invokevirtual 281, 3) := by decide +kernel
theorem dX11_scan_117 : decode cX11_scan 117 = .ok (.ifCond .eq 35, 3) := by decide +kernel
theorem dX11_scan_120 : decode cX11_scan 120 = .ok (.aload_n 0, 1) := by decide +kernel
theorem dX11_scan_121 : decode cX11_scan 121 = .ok (.aload_n 0, 1) := by decide +kernel
theorem dX11_scan_122 : decode cX11_scan 122 = .ok (.getfield 269, 3) := by decide +kernel
theorem dX11_scan_125 : decode cX11_scan 125 = .ok (.invokevirtual 281, 3) := by decide +kernel
theorem dX11_scan_128 : decode cX11_scan 128 = .ok (.ifCond .eq 16, 3) := by decide +kernel
theorem dX11_scan_131 : decode cX11_scan 131 = .ok (.aload_n 0, 1) := by decide +kernel
theorem dX11_scan_132 : decode cX11_scan 132 = .ok (.dup, 1) := by decide +kernel
theorem dX11_scan_133 : decode cX11_scan 133 = .ok (.getfield 269, 3) := by decide +kernel
theorem dX11_scan_136 : decode cX11_scan 136 = .ok (.iconst 1, 1) := by decide +kernel
theorem dX11_scan_137 : decode cX11_scan 137 = .ok (.iadd, 1) := by decide +kernel
theorem dX11_scan_138 : decode cX11_scan 138 = .ok (.putfield 269, 3) := by decide +kernel
theorem dX11_scan_141 : decode cX11_scan 141 = .ok (.goto (-21), 3) := by decide +kernel
theorem dX11_scan_144 : decode cX11_scan 144 = .ok (.aload_n 0, 1) := by decide +kernel
theorem dX11_scan_145 : decode cX11_scan 145 = .ok (.iconst 2, 1) := by decide +kernel
theorem dX11_scan_146 : decode cX11_scan 146 = .ok (.putfield 275, 3) := by decide +kernel
theorem dX11_scan_149 : decode cX11_scan 149 = .ok (.goto 18, 3) := by decide +kernel
theorem dX11_scan_152 : decode cX11_scan 152 = .ok (.aload_n 0, 1) := by decide +kernel
theorem dX11_scan_153 : decode cX11_scan 153 = .ok (.dup, 1) := by decide +kernel
theorem dX11_scan_154 : decode cX11_scan 154 = .ok (.getfield 269, 3) := by decide +kernel
theorem dX11_scan_157 : decode cX11_scan 157 = .ok (.iconst 1, 1) := by decide +kernel
theorem dX11_scan_158 : decode cX11_scan 158 = .ok (.iadd, 1) := by decide +kernel
theorem dX11_scan_159 : decode cX11_scan 159 = .ok (.putfield 269, 3) := by decide +kernel
theorem dX11_scan_162 : decode cX11_scan 162 = .ok (.aload_n 0, 1) := by decide +kernel
theorem dX11_scan_163 : decode cX11_scan 163 = .ok (.iconst 3, 1) := by decide +kernel
theorem dX11_scan_164 : decode cX11_scan 164 = .ok (.putfield 275, 3) := by decide +kernel
theorem dX11_scan_167 : decode cX11_scan 167 = .ok (.return_, 1) := by decide +kernel
theorem dX11_startText_0 : decode cX11_startText 0 = .ok (.aload_n 0, 1) := by decide +kernel
theorem dX11_startText_1 : decode cX11_startText 1 = .ok (.iload_n 1, 1) := by decide +kernel
theorem dX11_startText_2 : decode cX11_startText 2 = .ok (.putfield 263, 3) := by decide +kernel
theorem dX11_startText_5 : decode cX11_startText 5 = .ok (.aload_n 0, 1) := by decide +kernel
theorem dX11_startText_6 : decode cX11_startText 6 = .ok (.iconst 0, 1) := by decide +kernel
theorem dX11_startText_7 : decode cX11_startText 7 = .ok (.putfield 269, 3) := by decide +kernel
theorem dX11_startText_10 : decode cX11_startText 10 = .ok (.aload_n 0, 1) := by decide +kernel
theorem dX11_startText_11 : decode cX11_startText 11 = .ok (.iconst 0, 1) := by decide +kernel
theorem dX11_startText_12 : decode cX11_startText 12 = .ok (.putfield 284, 3) := by decide +kernel
theorem dX11_startText_15 : decode cX11_startText 15 = .ok (.aload_n 0, 1) := by decide +kernel
theorem dX11_startText_16 : decode cX11_startText 16 = .ok (.iconst 0, 1) := by decide +kernel
theorem dX11_startText_17 : decode cX11_startText 17 = .ok (.putfield 287, 3) := by decide +kernel
theorem dX11_startText_20 : decode cX11_startText 20 = .ok (.aload_n 0, 1) := by decide +kernel
theorem dX11_startText_21 : decode cX11_startText 21 = .ok (.invokevirtual 290, 3) := by decide +kernel
theorem dX11_startText_24 : decode cX11_startText 24 = .ok (.return_, 1) := by decide +kernel
theorem dX11_finish_0 : decode cX11_finish 0 = .ok (.aload_n 0, 1) := by decide +kernel
theorem dX11_finish_1 : decode cX11_finish 1 = .ok (.iconst 0, 1) := by decide +kernel
theorem dX11_finish_2 : decode cX11_finish 2 = .ok (.putfield 260, 3) := by decide +kernel
theorem dX11_finish_5 : decode cX11_finish 5 = .ok (.aload_n 0, 1) := by decide +kernel
theorem dX11_finish_6 : decode cX11_finish 6 = .ok (.aload_n 0, 1) := by decide +kernel
theorem dX11_finish_7 : decode cX11_finish 7 = .ok (.getfield 284, 3) := by decide +kernel
theorem dX11_finish_10 : decode cX11_finish 10 = .ok (.ifCond .ne 7, 3) := by decide +kernel
theorem dX11_finish_13 : decode cX11_finish 13 = .ok (.iconst (-1), 1) := by decide +kernel
theorem dX11_finish_14 : decode cX11_finish 14 = .ok (.goto 7, 3) := by decide +kernel
theorem dX11_finish_17 : decode cX11_finish 17 = .ok (.aload_n 0, 1) := by decide +kernel
theorem dX11_finish_18 : decode cX11_finish 18 = .ok (.getfield 293, 3) := by decide +kernel
theorem dX11_finish_21 : decode cX11_finish 21 = .ok (.putfield 38, 3) := by decide +kernel
theorem dX11_finish_24 : decode cX11_finish 24 = .ok (.aload_n 0, 1) := by decide +kernel
theorem dX11_finish_25 : decode cX11_finish 25 = .ok (.getfield 284, 3) := by decide +kernel
theorem dX11_finish_28 : decode cX11_finish 28 = .ok (.ireturn, 1) := by decide +kernel
theorem dX11_flaw_0 : decode cX11_flaw 0 = .ok (.aload_n 0, 1) := by decide +kernel
theorem dX11_flaw_1 : decode cX11_flaw 1 = .ok (.getfield 284, 3) := by decide +kernel
theorem dX11_flaw_4 : decode cX11_flaw 4 = .ok (.ifCond .ne 16, 3) := by decide +kernel
theorem dX11_flaw_7 : decode cX11_flaw 7 = .ok (.aload_n 0, 1) := by decide +kernel
theorem dX11_flaw_8 : decode cX11_flaw 8 = .ok (.iload_n 1, 1) := by decide +kernel
theorem dX11_flaw_9 : decode cX11_flaw 9 = .ok (.putfield 284, 3) := by decide +kernel
theorem dX11_flaw_12 : decode cX11_flaw 12 = .ok (.aload_n 0, 1) := by decide +kernel
theorem dX11_flaw_13 : decode cX11_flaw 13 = .ok (.aload_n 0, 1) := by decide +kernel
theorem dX11_flaw_14 : decode cX11_flaw 14 = .ok (.getfield 272, 3) := by decide +kernel
theorem dX11_flaw_17 : decode cX11_flaw 17 = .ok (.putfield 293, 3) := by decide +kernel
theorem dX11_flaw_20 : decode cX11_flaw 20 = .ok (.return_, 1) := by decide +kernel
theorem dX11_check_0 : decode cX11_check 0 = .ok (.iload_n 1, 1) := by decide +kernel
theorem dX11_check_1 : decode cX11_check 1 = .ok (.ifCond .ne 8, 3) := by decide +kernel
theorem dX11_check_4 : decode cX11_check 4 = .ok (.aload_n 0, 1) := by decide +kernel
theorem dX11_check_5 : decode cX11_check 5 = .ok (.iload_n 2, 1) := by decide +kernel
theorem dX11_check_6 : decode cX11_check 6 = .ok (.invokevirtual 296, 3) := by decide +kernel
theorem dX11_check_9 : decode cX11_check 9 = .ok (.return_, 1) := by decide +kernel
theorem dX11_advance_0 : decode cX11_advance 0 = .ok (.aload_n 0, 1) := by decide +kernel
theorem dX11_advance_1 : decode cX11_advance 1 = .ok (.getfield 284, 3) := by decide +kernel
theorem dX11_advance_4 : decode cX11_advance 4 = .ok (.ifCond .ne 7, 3) := by decide +kernel
theorem dX11_advance_7 : decode cX11_advance 7 = .ok (.aload_n 0, 1) := by decide +kernel
theorem dX11_advance_8 : decode cX11_advance 8 = .ok (.invokevirtual 290, 3) := by decide +kernel
theorem dX11_advance_11 : decode cX11_advance 11 = .ok (.return_, 1) := by decide +kernel
theorem dX11_isSymbol_0 : decode cX11_isSymbol 0 = .ok (.aload_n 0, 1) := by decide +kernel
theorem dX11_isSymbol_1 : decode cX11_isSymbol 1 = .ok (.getfield 284, 3) := by decide +kernel
theorem dX11_isSymbol_4 : decode cX11_isSymbol 4 = .ok (.ifCond .ne 28, 3) := by decide +kernel
theorem dX11_isSymbol_7 : decode cX11_isSymbol 7 = .ok (.aload_n 0, 1) := by decide +kernel
theorem dX11_isSymbol_8 : decode cX11_isSymbol 8 = .ok (.getfield 275, 3) := by decide +kernel
theorem dX11_isSymbol_11 : decode cX11_isSymbol 11 = .ok (.iconst 3, 1) := by decide +kernel
theorem dX11_isSymbol_12 : decode cX11_isSymbol 12 = .ok (.if_icmp .ne 20, 3) := by decide +kernel
theorem dX11_isSymbol_15 : decode cX11_isSymbol 15 = .ok (.aload_n 0, 1) := by decide +kernel
theorem dX11_isSymbol_16 : decode cX11_isSymbol 16 = .ok (.getfield 35, 3) := by decide +kernel
theorem dX11_isSymbol_19 : decode cX11_isSymbol 19 = .ok (.aload_n 0, 1) := by decide +kernel
theorem dX11_isSymbol_20 : decode cX11_isSymbol 20 = .ok (.getfield 272, 3) := by decide +kernel
theorem dX11_isSymbol_23 : decode cX11_isSymbol 23 = .ok (.iaload, 1) := by decide +kernel
theorem dX11_isSymbol_24 : decode cX11_isSymbol 24 = .ok (.iload_n 1, 1) := by decide +kernel
theorem dX11_isSymbol_25 : decode cX11_isSymbol 25 = .ok (.if_icmp .ne 7, 3) := by decide +kernel
theorem dX11_isSymbol_28 : decode cX11_isSymbol 28 = .ok (.iconst 1, 1) := by decide +kernel
theorem dX11_isSymbol_29 : decode cX11_isSymbol 29 = .ok (.goto 4, 3) := by decide +kernel
theorem dX11_isSymbol_32 : decode cX11_isSymbol 32 = .ok (.iconst 0, 1) := by decide +kernel
theorem dX11_isSymbol_33 : decode cX11_isSymbol 33 = .ok (.ireturn, 1) := by decide +kernel
theorem dX11_isWord_0 : decode cX11_isWord 0 = .ok (.aload_n 0, 1) := by decide +kernel
theorem dX11_isWord_1 : decode cX11_isWord 1 = .ok (.getfield 284, 3) := by decide +kernel
theorem dX11_isWord_4 : decode cX11_isWord 4 = .ok (.ifCond .ne 31, 3) := by decide +kernel
theorem dX11_isWord_7 : decode cX11_isWord 7 = .ok (.aload_n 0, 1) := by decide +kernel
theorem dX11_isWord_8 : decode cX11_isWord 8 = .ok (.getfield 275, 3) := by decide +kernel
theorem dX11_isWord_11 : decode cX11_isWord 11 = .ok (.iconst 1, 1) := by decide +kernel
theorem dX11_isWord_12 : decode cX11_isWord 12 = .ok (.if_icmp .ne 23, 3) := by decide +kernel
theorem dX11_isWord_15 : decode cX11_isWord 15 = .ok (.aload_n 1, 1) := by decide +kernel
theorem dX11_isWord_16 : decode cX11_isWord 16 = .ok (.invokevirtual 299, 3) := by decide +kernel
theorem dX11_isWord_19 : decode cX11_isWord 19 = .ok (.aload_n 0, 1) := by decide +kernel
theorem dX11_isWord_20 : decode cX11_isWord 20 = .ok (.getfield 269, 3) := by decide +kernel
theorem dX11_isWord_23 : decode cX11_isWord 23 = .ok (.aload_n 0, 1) := by decide +kernel
theorem dX11_isWord_24 : decode cX11_isWord 24 = .ok (.getfield 272, 3) := by decide +kernel
theorem dX11_isWord_27 : decode cX11_isWord 27 = .ok (.isub, 1) := by decide +kernel
theorem dX11_isWord_28 : decode cX11_isWord 28 = .ok (.if_icmp .ne 7, 3) := by decide +kernel
theorem dX11_isWord_31 : decode cX11_isWord 31 = .ok (.iconst 1, 1) := by decide +kernel
theorem dX11_isWord_32 : decode cX11_isWord 32 = .ok (.goto 4, 3) := by decide +kernel
theorem dX11_isWord_35 : decode cX11_isWord 35 = .ok (.iconst 0, 1) := by decide +kernel
theorem dX11_isWord_36 : decode cX11_isWord 36 = .ok (.istore_n 2, 1) := by decide +kernel
theorem dX11_isWord_37 : decode cX11_isWord 37 = .ok (.iconst 0, 1) := by decide +kernel
theorem dX11_isWord_38 : decode cX11_isWord 38 = .ok (.istore_n 3, 1) := by decide +kernel
theorem dX11_isWord_39 : decode cX11_isWord 39 = .ok (.iload_n 2, 1) := by decide +kernel
theorem dX11_isWord_40 : decode cX11_isWord 40 = .ok (.ifCond .eq 42, 3) := by decide +kernel
theorem dX11_isWord_43 : decode cX11_isWord 43 = .ok (.iload_n 3, 1) := by decide +kernel
theorem dX11_isWord_44 : decode cX11_isWord 44 = .ok (.aload_n 1, 1) := by decide +kernel
theorem dX11_isWord_45 : decode cX11_isWord 45 = .ok (.invokevirtual 299, 3) := by decide +kernel
theorem dX11_isWord_48 : decode cX11_isWord 48 = .ok (.if_icmp .ge 34, 3) := by decide +kernel
theorem dX11_isWord_51 : decode cX11_isWord 51 = .ok (.aload_n 1, 1) := by decide +kernel
theorem dX11_isWord_52 : decode cX11_isWord 52 = .ok (.iload_n 3, 1) := by decide +kernel
theorem dX11_isWord_53 : decode cX11_isWord 53 = .ok (.invokevirtual 302, 3) := by decide +kernel
theorem dX11_isWord_56 : decode cX11_isWord 56 = .ok (.aload_n 0, 1) := by decide +kernel
theorem dX11_isWord_57 : decode cX11_isWord 57 = .ok (.getfield 35, 3) := by decide +kernel
theorem dX11_isWord_60 : decode cX11_isWord 60 = .ok (.aload_n 0, 1) := by decide +kernel
theorem dX11_isWord_61 : decode cX11_isWord 61 = .ok (.getfield 272, 3) := by decide +kernel
theorem dX11_isWord_64 : decode cX11_isWord 64 = .ok (.iload_n 3, 1) := by decide +kernel
theorem dX11_isWord_65 : decode cX11_isWord 65 = .ok (.iadd, 1) := by decide +kernel
theorem dX11_isWord_66 : decode cX11_isWord 66 = .ok (.iaload, 1) := by decide +kernel
theorem dX11_isWord_67 : decode cX11_isWord 67 = .ok (.if_icmp .ne 7, 3) := by decide +kernel
theorem dX11_isWord_70 : decode cX11_isWord 70 = .ok (.iconst 1, 1) := by decide +kernel
theorem dX11_isWord_71 : decode cX11_isWord 71 = .ok (.goto 4, 3) := by decide +kernel
theorem dX11_isWord_74 : decode cX11_isWord 74 = .ok (.iconst 0, 1) := by decide +kernel
theorem dX11_isWord_75 : decode cX11_isWord 75 = .ok (.istore_n 2, 1) := by decide +kernel
theorem dX11_isWord_76 : decode cX11_isWord 76 = .ok (.iinc 3 1, 3) := by decide +kernel
theorem dX11_isWord_79 : decode cX11_isWord 79 = .ok (.goto (-40), 3) := by decide +kernel
theorem dX11_isWord_82 : decode cX11_isWord 82 = .ok (.iload_n 2, 1) := by decide +kernel
theorem dX11_isWord_83 : decode cX11_isWord 83 = .ok (.ireturn, 1) := by decide +kernel
theorem dX11_accept_0 : decode cX11_accept 0 = .ok (.aload_n 0, 1) := by decide +kernel
theorem dX11_accept_1 : decode cX11_accept 1 = .ok (.aload_n 1, 1) := by decide +kernel
theorem dX11_accept_2 : decode cX11_accept 2 = .ok (.invokevirtual 306, 3) := by decide +kernel
theorem dX11_accept_5 : decode cX11_accept 5 = .ok (.istore_n 2, 1) := by decide +kernel
theorem dX11_accept_6 : decode cX11_accept 6 = .ok (.iload_n 2, 1) := by decide +kernel
theorem dX11_accept_7 : decode cX11_accept 7 = .ok (.ifCond .eq 7, 3) := by decide +kernel
theorem dX11_accept_10 : decode cX11_accept 10 = .ok (.aload_n 0, 1) := by decide +kernel
theorem dX11_accept_11 : decode cX11_accept 11 = .ok (.invokevirtual 290, 3) := by decide +kernel
theorem dX11_accept_14 : decode cX11_accept 14 = .ok (.iload_n 2, 1) := by decide +kernel
theorem dX11_accept_15 : decode cX11_accept 15 = .ok (.ireturn, 1) := by decide +kernel
theorem dX11_expectWord_0 : decode cX11_expectWord 0 = .ok (.aload_n 0, 1) := by decide +kernel
theorem dX11_expectWord_1 : decode cX11_expectWord 1 = .ok (.aload_n 0, 1) := by decide +kernel
theorem dX11_expectWord_2 : decode cX11_expectWord 2 = .ok (.aload_n 1, 1) := by decide +kernel
theorem dX11_expectWord_3 : decode cX11_expectWord 3 = .ok (.invokevirtual 306, 3) := by decide +kernel
theorem dX11_expectWord_6 : decode cX11_expectWord 6 = .ok (.iconst 1, 1) := by decide +kernel
theorem dX11_expectWord_7 : decode cX11_expectWord 7 = .ok (.invokevirtual 310, 3) := by decide +kernel
theorem dX11_expectWord_10 : decode cX11_expectWord 10 = .ok (.aload_n 0, 1) := by decide +kernel
theorem dX11_expectWord_11 : decode cX11_expectWord 11 = .ok (.invokevirtual 314, 3) := by decide +kernel
theorem dX11_expectWord_14 : decode cX11_expectWord 14 = .ok (.return_, 1) := by decide +kernel
theorem dX11_expect_0 : decode cX11_expect 0 = .ok (.aload_n 0, 1) := by decide +kernel
theorem dX11_expect_1 : decode cX11_expect 1 = .ok (.aload_n 0, 1) := by decide +kernel
theorem dX11_expect_2 : decode cX11_expect 2 = .ok (.iload_n 1, 1) := by decide +kernel
theorem dX11_expect_3 : decode cX11_expect 3 = .ok (.invokevirtual 317, 3) := by decide +kernel
theorem dX11_expect_6 : decode cX11_expect 6 = .ok (.iconst 1, 1) := by decide +kernel
theorem dX11_expect_7 : decode cX11_expect 7 = .ok (.invokevirtual 310, 3) := by decide +kernel
theorem dX11_expect_10 : decode cX11_expect 10 = .ok (.aload_n 0, 1) := by decide +kernel
theorem dX11_expect_11 : decode cX11_expect 11 = .ok (.invokevirtual 314, 3) := by decide +kernel
theorem dX11_expect_14 : decode cX11_expect 14 = .ok (.return_, 1) := by decide +kernel
theorem dX11_value_0 : decode cX11_value 0 = .ok (.iconst 0, 1) := by decide +kernel
theorem dX11_value_1 : decode cX11_value 1 = .ok (.istore_n 1, 1) := by decide +kernel
theorem dX11_value_2 : decode cX11_value 2 = .ok (.aload_n 0, 1) := by decide +kernel
theorem dX11_value_3 : decode cX11_value 3 = .ok (.getfield 272, 3) := by decide +kernel
theorem dX11_value_6 : decode cX11_value 6 = .ok (.istore_n 2, 1) := by decide +kernel
theorem dX11_value_7 : decode cX11_value 7 = .ok (.iload_n 2, 1) := by decide +kernel
theorem dX11_value_8 : decode cX11_value 8 = .ok (.aload_n 0, 1) := by decide +kernel
theorem dX11_value_9 : decode cX11_value 9 = .ok (.getfield 269, 3) := by decide +kernel
theorem dX11_value_12 : decode cX11_value 12 = .ok (.if_icmp .ge 43, 3) := by decide +kernel
theorem dX11_value_15 : decode cX11_value 15 = .ok (.aload_n 0, 1) := by decide +kernel
theorem dX11_value_16 : decode cX11_value 16 = .ok (.getfield 275, 3) := by decide +kernel
theorem dX11_value_19 : decode cX11_value 19 = .ok (.iconst 2, 1) := by decide +kernel
theorem dX11_value_20 : decode cX11_value 20 = .ok (.if_icmp .ne 35, 3) := by decide +kernel
theorem dX11_value_23 : decode cX11_value 23 = .ok (.ldc2_w 320, 3) := by decide +kernel
theorem dX11_value_26 : decode cX11_value 26 = .ok (.ldc2_w 322, 3) := by decide +kernel
theorem dX11_value_29 : decode cX11_value 29 = .ok (.iload_n 1, 1) := by decide +kernel
theorem dX11_value_30 : decode cX11_value 30 = .ok (.i2l, 1) := by decide +kernel
theorem dX11_value_31 : decode cX11_value 31 = .ok (.lmul, 1) := by decide +kernel
theorem dX11_value_32 : decode cX11_value 32 = .ok (.aload_n 0, 1) := by decide +kernel
theorem dX11_value_33 : decode cX11_value 33 = .ok (.getfield 35, 3) := by decide +kernel
theorem dX11_value_36 : decode cX11_value 36 = .ok (.iload_n 2, 1) := by decide +kernel
theorem dX11_value_37 : decode cX11_value 37 = .ok (.iaload, 1) := by decide +kernel
theorem dX11_value_38 : decode cX11_value 38 = .ok (.i2l, 1) := by decide +kernel
theorem dX11_value_39 : decode cX11_value 39 = .ok (.ladd, 1) := by decide +kernel
theorem dX11_value_40 : decode cX11_value 40 = .ok (.ldc2_w 324, 3) := by decide +kernel
theorem dX11_value_43 : decode cX11_value 43 = .ok (.lsub, 1) := by decide +kernel
theorem dX11_value_44 : decode cX11_value 44 = .ok (.invokestatic 326, 3) := by decide +kernel
theorem dX11_value_47 : decode cX11_value 47 = .ok (.l2i, 1) := by decide +kernel
theorem dX11_value_48 : decode cX11_value 48 = .ok (.istore_n 1, 1) := by decide +kernel
theorem dX11_value_49 : decode cX11_value 49 = .ok (.iinc 2 1, 3) := by decide +kernel
theorem dX11_value_52 : decode cX11_value 52 = .ok (.goto (-45), 3) := by decide +kernel
theorem dX11_value_55 : decode cX11_value 55 = .ok (.iload_n 1, 1) := by decide +kernel
theorem dX11_value_56 : decode cX11_value 56 = .ok (.ireturn, 1) := by decide +kernel
theorem dX11_readNumber_0 : decode cX11_readNumber 0 = .ok (.aload_n 0, 1) := by decide +kernel
theorem dX11_readNumber_1 : decode cX11_readNumber 1 = .ok (.aload_n 0, 1) := by decide +kernel
theorem dX11_readNumber_2 : decode cX11_readNumber 2 = .ok (.getfield 284, 3) := by decide +kernel
theorem dX11_readNumber_5 : decode cX11_readNumber 5 = .ok (.ifCond .ne 11, 3) := by decide +kernel
theorem dX11_readNumber_8 : decode cX11_readNumber 8 = .ok (.aload_n 0, 1) := by decide +kernel
theorem dX11_readNumber_9 : decode cX11_readNumber 9 = .ok (.getfield 275, 3) := by decide +kernel
theorem dX11_readNumber_12 : decode cX11_readNumber 12 = .ok (.iconst 2, 1) := by decide +kernel
theorem dX11_readNumber_13 : decode cX11_readNumber 13 = .ok (.if_icmp .ne 7, 3) := by decide +kernel
theorem dX11_readNumber_16 : decode cX11_readNumber 16 = .ok (.iconst 1, 1) := by decide +kernel
theorem dX11_readNumber_17 : decode cX11_readNumber 17 = .ok (.goto 4, 3) := by decide +kernel
theorem dX11_readNumber_20 : decode cX11_readNumber 20 = .ok (.iconst 0, 1) := by decide +kernel
theorem dX11_readNumber_21 : decode cX11_readNumber 21 = .ok (.iconst 1, 1) := by decide +kernel
theorem dX11_readNumber_22 : decode cX11_readNumber 22 = .ok (.invokevirtual 310, 3) := by decide +kernel
theorem dX11_readNumber_25 : decode cX11_readNumber 25 = .ok (.aload_n 0, 1) := by decide +kernel
theorem dX11_readNumber_26 : decode cX11_readNumber 26 = .ok (.invokevirtual 330, 3) := by decide +kernel
theorem dX11_readNumber_29 : decode cX11_readNumber 29 = .ok (.istore_n 3, 1) := by decide +kernel
theorem dX11_readNumber_30 : decode cX11_readNumber 30 = .ok (.aload_n 0, 1) := by decide +kernel
theorem dX11_readNumber_31 : decode cX11_readNumber 31 = .ok (.aload_n 0, 1) := by decide +kernel
theorem dX11_readNumber_32 : decode cX11_readNumber 32 = .ok (.getfield 284, 3) := by decide +kernel
theorem dX11_readNumber_35 : decode cX11_readNumber 35 = .ok (.ifCond .ne 12, 3) := by decide +kernel
theorem dX11_readNumber_38 : decode cX11_readNumber 38 = .ok (.iload_n 3, 1) := by decide +kernel
theorem dX11_readNumber_39 : decode cX11_readNumber 39 = .ok (.iload_n 1, 1) := by decide +kernel
theorem dX11_readNumber_40 : decode cX11_readNumber 40 = .ok (.iload_n 2, 1) := by decide +kernel
theorem dX11_readNumber_41 : decode cX11_readNumber 41 = .ok (.invokestatic 90, 3) := by decide +kernel
theorem dX11_readNumber_44 : decode cX11_readNumber 44 = .ok (.ifCond .eq 7, 3) := by decide +kernel
theorem dX11_readNumber_47 : decode cX11_readNumber 47 = .ok (.iconst 1, 1) := by decide +kernel
theorem dX11_readNumber_48 : decode cX11_readNumber 48 = .ok (.goto 4, 3) := by decide +kernel
theorem dX11_readNumber_51 : decode cX11_readNumber 51 = .ok (.iconst 0, 1) := by decide +kernel
theorem dX11_readNumber_52 : decode cX11_readNumber 52 = .ok (.iconst 2, 1) := by decide +kernel
theorem dX11_readNumber_53 : decode cX11_readNumber 53 = .ok (.invokevirtual 310, 3) := by decide +kernel
theorem dX11_readNumber_56 : decode cX11_readNumber 56 = .ok (.aload_n 0, 1) := by decide +kernel
theorem dX11_readNumber_57 : decode cX11_readNumber 57 = .ok (.invokevirtual 314, 3) := by decide +kernel
theorem dX11_readNumber_60 : decode cX11_readNumber 60 = .ok (.aload_n 0, 1) := by decide +kernel
theorem dX11_readNumber_61 : decode cX11_readNumber 61 = .ok (.getfield 284, 3) := by decide +kernel
theorem dX11_readNumber_64 : decode cX11_readNumber 64 = .ok (.ifCond .ne 7, 3) := by decide +kernel
theorem dX11_readNumber_67 : decode cX11_readNumber 67 = .ok (.iload_n 3, 1) := by decide +kernel
theorem dX11_readNumber_68 : decode cX11_readNumber 68 = .ok (.goto 4, 3) := by decide +kernel
theorem dX11_readNumber_71 : decode cX11_readNumber 71 = .ok (.iload_n 1, 1) := by decide +kernel
theorem dX11_readNumber_72 : decode cX11_readNumber 72 = .ok (.ireturn, 1) := by decide +kernel
theorem dX11_isHeldInDraft_0 : decode cX11_isHeldInDraft 0 = .ok (.aload_n 0, 1) := by decide +kernel
theorem dX11_isHeldInDraft_1 : decode cX11_isHeldInDraft 1 = .ok (.getfield 13, 3) := by decide +kernel
theorem dX11_isHeldInDraft_4 : decode cX11_isHeldInDraft 4 = .ok (.bipush 10, 2) := by decide +kernel
theorem dX11_isHeldInDraft_6 : decode cX11_isHeldInDraft 6 = .ok (.iaload, 1) := by decide +kernel
theorem dX11_isHeldInDraft_7 : decode cX11_isHeldInDraft 7 = .ok (.iload_n 1, 1) := by decide +kernel
theorem dX11_isHeldInDraft_8 : decode cX11_isHeldInDraft 8 = .ok (.if_icmp .ne 18, 3) := by decide +kernel
theorem dX11_isHeldInDraft_11 : decode cX11_isHeldInDraft 11 = .ok (.aload_n 0, 1) := by decide +kernel
theorem dX11_isHeldInDraft_12 : decode cX11_isHeldInDraft 12 = .ok (.getfield 13, 3) := by decide +kernel
theorem dX11_isHeldInDraft_15 : decode cX11_isHeldInDraft 15 = .ok (.bipush 11, 2) := by decide +kernel
theorem dX11_isHeldInDraft_17 : decode cX11_isHeldInDraft 17 = .ok (.iaload, 1) := by decide +kernel
theorem dX11_isHeldInDraft_18 : decode cX11_isHeldInDraft 18 = .ok (.iload_n 2, 1) := by decide +kernel
theorem dX11_isHeldInDraft_19 : decode cX11_isHeldInDraft 19 = .ok (.if_icmp .ne 7, 3) := by decide +kernel
theorem dX11_isHeldInDraft_22 : decode cX11_isHeldInDraft 22 = .ok (.iconst 1, 1) := by decide +kernel
theorem dX11_isHeldInDraft_23 : decode cX11_isHeldInDraft 23 = .ok (.goto 4, 3) := by decide +kernel
theorem dX11_isHeldInDraft_26 : decode cX11_isHeldInDraft 26 = .ok (.iconst 0, 1) := by decide +kernel
theorem dX11_isHeldInDraft_27 : decode cX11_isHeldInDraft 27 = .ok (.istore_n 3, 1) := by decide +kernel
theorem dX11_isHeldInDraft_28 : decode cX11_isHeldInDraft 28 = .ok (.iconst 0, 1) := by decide +kernel
theorem dX11_isHeldInDraft_29 : decode cX11_isHeldInDraft 29 = .ok (.istore 4, 2) := by decide +kernel
theorem dX11_isHeldInDraft_31 : decode cX11_isHeldInDraft 31 = .ok (.iload 4, 2) := by decide +kernel
theorem dX11_isHeldInDraft_33 : decode cX11_isHeldInDraft 33 = .ok (.aload_n 0, 1) := by decide +kernel
theorem dX11_isHeldInDraft_34 : decode cX11_isHeldInDraft 34 = .ok (.getfield 13, 3) := by decide +kernel
theorem dX11_isHeldInDraft_37 : decode cX11_isHeldInDraft 37 = .ok (.iconst 2, 1) := by decide +kernel
theorem dX11_isHeldInDraft_38 : decode cX11_isHeldInDraft 38 = .ok (.iaload, 1) := by decide +kernel
theorem dX11_isHeldInDraft_39 : decode cX11_isHeldInDraft 39 = .ok (.if_icmp .ge 47, 3) := by decide +kernel
theorem dX11_isHeldInDraft_42 : decode cX11_isHeldInDraft 42 = .ok (.iload_n 3, 1) := by decide +kernel
theorem dX11_isHeldInDraft_43 : decode cX11_isHeldInDraft 43 = .ok (.aload_n 0, 1) := by decide +kernel
theorem dX11_isHeldInDraft_44 : decode cX11_isHeldInDraft 44 = .ok (.getfield 13, 3) := by decide +kernel
theorem dX11_isHeldInDraft_47 : decode cX11_isHeldInDraft 47 = .ok (.iload 4, 2) := by decide +kernel
theorem dX11_isHeldInDraft_49 : decode cX11_isHeldInDraft 49 = .ok (.iconst 0, 1) := by decide +kernel
theorem dX11_isHeldInDraft_50 : decode cX11_isHeldInDraft 50 = .ok (.invokestatic 80, 3) := by decide +kernel
theorem dX11_isHeldInDraft_53 : decode cX11_isHeldInDraft 53 = .ok (.iaload, 1) := by decide +kernel
theorem dX11_isHeldInDraft_54 : decode cX11_isHeldInDraft 54 = .ok (.iload_n 1, 1) := by decide +kernel
theorem dX11_isHeldInDraft_55 : decode cX11_isHeldInDraft 55 = .ok (.if_icmp .ne 22, 3) := by decide +kernel
theorem dX11_isHeldInDraft_58 : decode cX11_isHeldInDraft 58 = .ok (.aload_n 0, 1) := by decide +kernel
theorem dX11_isHeldInDraft_59 : decode cX11_isHeldInDraft 59 = .ok (.getfield 13, 3) := by decide +kernel
theorem dX11_isHeldInDraft_62 : decode cX11_isHeldInDraft 62 = .ok (.iload 4, 2) := by decide +kernel
theorem dX11_isHeldInDraft_64 : decode cX11_isHeldInDraft 64 = .ok (.iconst 1, 1) := by decide +kernel
theorem dX11_isHeldInDraft_65 : decode cX11_isHeldInDraft 65 = .ok (.invokestatic 80, 3) := by decide +kernel
theorem dX11_isHeldInDraft_68 : decode cX11_isHeldInDraft 68 = .ok (.iaload, 1) := by decide +kernel
theorem dX11_isHeldInDraft_69 : decode cX11_isHeldInDraft 69 = .ok (.iload_n 2, 1) := by decide +kernel
theorem dX11_isHeldInDraft_70 : decode cX11_isHeldInDraft 70 = .ok (.if_icmp .ne 7, 3) := by decide +kernel
theorem dX11_isHeldInDraft_73 : decode cX11_isHeldInDraft 73 = .ok (.iconst 1, 1) := by decide +kernel
theorem dX11_isHeldInDraft_74 : decode cX11_isHeldInDraft 74 = .ok (.goto 4, 3) := by decide +kernel
theorem dX11_isHeldInDraft_77 : decode cX11_isHeldInDraft 77 = .ok (.iconst 0, 1) := by decide +kernel
theorem dX11_isHeldInDraft_78 : decode cX11_isHeldInDraft 78 = .ok (.ior, 1) := by decide +kernel
theorem dX11_isHeldInDraft_79 : decode cX11_isHeldInDraft 79 = .ok (.istore_n 3, 1) := by decide +kernel
theorem dX11_isHeldInDraft_80 : decode cX11_isHeldInDraft 80 = .ok (.iinc 4 1, 3) := by decide +kernel
theorem dX11_isHeldInDraft_83 : decode cX11_isHeldInDraft 83 = .ok (.goto (-52), 3) := by decide +kernel
theorem dX11_isHeldInDraft_86 : decode cX11_isHeldInDraft 86 = .ok (.iload_n 3, 1) := by decide +kernel
theorem dX11_isHeldInDraft_87 : decode cX11_isHeldInDraft 87 = .ok (.ireturn, 1) := by decide +kernel
theorem dX11_readCell_0 : decode cX11_readCell 0 = .ok (.aload_n 0, 1) := by decide +kernel
theorem dX11_readCell_1 : decode cX11_readCell 1 = .ok (.aload_n 0, 1) := by decide +kernel
theorem dX11_readCell_2 : decode cX11_readCell 2 = .ok (.iconst 0, 1) := by decide +kernel
theorem dX11_readCell_3 : decode cX11_readCell 3 = .ok (.aload_n 0, 1) := by decide +kernel
theorem dX11_readCell_4 : decode cX11_readCell 4 = .ok (.getfield 13, 3) := by decide +kernel
theorem dX11_readCell_7 : decode cX11_readCell 7 = .ok (.iconst 0, 1) := by decide +kernel
theorem dX11_readCell_8 : decode cX11_readCell 8 = .ok (.iaload, 1) := by decide +kernel
theorem dX11_readCell_9 : decode cX11_readCell 9 = .ok (.iconst 1, 1) := by decide +kernel
theorem dX11_readCell_10 : decode cX11_readCell 10 = .ok (.isub, 1) := by decide +kernel
theorem dX11_readCell_11 : decode cX11_readCell 11 = .ok (.invokevirtual 333, 3) := by decide +kernel
theorem dX11_readCell_14 : decode cX11_readCell 14 = .ok (.putfield 336, 3) := by decide +kernel
theorem dX11_readCell_17 : decode cX11_readCell 17 = .ok (.aload_n 0, 1) := by decide +kernel
theorem dX11_readCell_18 : decode cX11_readCell 18 = .ok (.aload_n 0, 1) := by decide +kernel
theorem dX11_readCell_19 : decode cX11_readCell 19 = .ok (.getfield 284, 3) := by decide +kernel
theorem dX11_readCell_22 : decode cX11_readCell 22 = .ok (.ifCond .ne 11, 3) := by decide +kernel
theorem dX11_readCell_25 : decode cX11_readCell 25 = .ok (.aload_n 0, 1) := by decide +kernel
theorem dX11_readCell_26 : decode cX11_readCell 26 = .ok (.getfield 275, 3) := by decide +kernel
theorem dX11_readCell_29 : decode cX11_readCell 29 = .ok (.iconst 2, 1) := by decide +kernel
theorem dX11_readCell_30 : decode cX11_readCell 30 = .ok (.if_icmp .ne 7, 3) := by decide +kernel
theorem dX11_readCell_33 : decode cX11_readCell 33 = .ok (.iconst 1, 1) := by decide +kernel
theorem dX11_readCell_34 : decode cX11_readCell 34 = .ok (.goto 4, 3) := by decide +kernel
theorem dX11_readCell_37 : decode cX11_readCell 37 = .ok (.iconst 0, 1) := by decide +kernel
theorem dX11_readCell_38 : decode cX11_readCell 38 = .ok (.iconst 1, 1) := by decide +kernel
theorem dX11_readCell_39 : decode cX11_readCell 39 = .ok (.invokevirtual 310, 3) := by decide +kernel
theorem dX11_readCell_42 : decode cX11_readCell 42 = .ok (.aload_n 0, 1) := by decide +kernel
theorem dX11_readCell_43 : decode cX11_readCell 43 = .ok (.aload_n 0, 1) := by decide +kernel
theorem dX11_readCell_44 : decode cX11_readCell 44 = .ok (.getfield 284, 3) := by decide +kernel
theorem dX11_readCell_47 : decode cX11_readCell 47 = .ok (.ifCond .ne 22, 3) := by decide +kernel
theorem dX11_readCell_50 : decode cX11_readCell 50 = .ok (.aload_n 0, 1) := by decide +kernel
theorem dX11_readCell_51 : decode cX11_readCell 51 = .ok (.invokevirtual 330, 3) := by decide +kernel
theorem dX11_readCell_54 : decode cX11_readCell 54 = .ok (.iconst 0, 1) := by decide +kernel
theorem dX11_readCell_55 : decode cX11_readCell 55 = .ok (.aload_n 0, 1) := by decide +kernel
theorem dX11_readCell_56 : decode cX11_readCell 56 = .ok (.getfield 13, 3) := by decide +kernel
theorem dX11_readCell_59 : decode cX11_readCell 59 = .ok (.iconst 1, 1) := by decide +kernel
theorem dX11_readCell_60 : decode cX11_readCell 60 = .ok (.iaload, 1) := by decide +kernel
theorem dX11_readCell_61 : decode cX11_readCell 61 = .ok (.iconst 1, 1) := by decide +kernel
theorem dX11_readCell_62 : decode cX11_readCell 62 = .ok (.isub, 1) := by decide +kernel
theorem dX11_readCell_63 : decode cX11_readCell 63 = .ok (.invokestatic 90, 3) := by decide +kernel
theorem dX11_readCell_66 : decode cX11_readCell 66 = .ok (.ifCond .eq 7, 3) := by decide +kernel
theorem dX11_readCell_69 : decode cX11_readCell 69 = .ok (.iconst 1, 1) := by decide +kernel
theorem dX11_readCell_70 : decode cX11_readCell 70 = .ok (.goto 4, 3) := by decide +kernel
theorem dX11_readCell_73 : decode cX11_readCell 73 = .ok (.iconst 0, 1) := by decide +kernel
theorem dX11_readCell_74 : decode cX11_readCell 74 = .ok (.iconst 2, 1) := by decide +kernel
theorem dX11_readCell_75 : decode cX11_readCell 75 = .ok (.invokevirtual 310, 3) := by decide +kernel
theorem dX11_readCell_78 : decode cX11_readCell 78 = .ok (.aload_n 0, 1) := by decide +kernel
theorem dX11_readCell_79 : decode cX11_readCell 79 = .ok (.aload_n 0, 1) := by decide +kernel
theorem dX11_readCell_80 : decode cX11_readCell 80 = .ok (.getfield 284, 3) := by decide +kernel
theorem dX11_readCell_83 : decode cX11_readCell 83 = .ok (.ifCond .eq 7, 3) := by decide +kernel
theorem dX11_readCell_86 : decode cX11_readCell 86 = .ok (.iconst 0, 1) := by decide +kernel
theorem dX11_readCell_87 : decode cX11_readCell 87 = .ok (.goto 7, 3) := by decide +kernel
theorem dX11_readCell_90 : decode cX11_readCell 90 = .ok (.aload_n 0, 1) := by decide +kernel
theorem dX11_readCell_91 : decode cX11_readCell 91 = .ok (.invokevirtual 330, 3) := by decide +kernel
theorem dX11_readCell_94 : decode cX11_readCell 94 = .ok (.putfield 339, 3) := by decide +kernel
theorem dX11_readCell_97 : decode cX11_readCell 97 = .ok (.aload_n 0, 1) := by decide +kernel
theorem dX11_readCell_98 : decode cX11_readCell 98 = .ok (.getfield 284, 3) := by decide +kernel
theorem dX11_readCell_101 : decode cX11_readCell 101 = .ok (.ifCond .ne 27, 3) := by decide +kernel
theorem dX11_readCell_104 : decode cX11_readCell 104 = .ok (.aload_n 0, 1) := by decide +kernel
theorem dX11_readCell_105 : decode cX11_readCell 105 = .ok (.getfield 13, 3) := by decide +kernel
theorem dX11_readCell_108 : decode cX11_readCell 108 = .ok (.aload_n 0, 1) := by decide +kernel
theorem dX11_readCell_109 : decode cX11_readCell 109 = .ok (.getfield 336, 3) := by decide +kernel
theorem dX11_readCell_112 : decode cX11_readCell 112 = .ok (.aload_n 0, 1) := by decide +kernel
theorem dX11_readCell_113 : decode cX11_readCell 113 = .ok (.getfield 339, 3) := by decide +kernel
theorem dX11_readCell_116 : decode cX11_readCell 116 = .ok (.invokestatic 98, 3) := by decide +kernel
theorem dX11_readCell_119 : decode cX11_readCell 119 = .ok (.iaload, 1) := by decide +kernel
theorem dX11_readCell_120 : decode cX11_readCell 120 = .ok (.iconst 1, 1) := by decide +kernel
theorem dX11_readCell_121 : decode cX11_readCell 121 = .ok (.if_icmp .ne 7, 3) := by decide +kernel
theorem dX11_readCell_124 : decode cX11_readCell 124 = .ok (.iconst 1, 1) := by decide +kernel
theorem dX11_readCell_125 : decode cX11_readCell 125 = .ok (.goto 4, 3) := by decide +kernel
theorem dX11_readCell_128 : decode cX11_readCell 128 = .ok (.iconst 0, 1) := by decide +kernel
theorem dX11_readCell_129 : decode cX11_readCell 129 = .ok (.istore_n 3, 1) := by decide +kernel
theorem dX11_readCell_130 : decode cX11_readCell 130 = .ok (.aload_n 0, 1) := by decide +kernel
theorem dX11_readCell_131 : decode cX11_readCell 131 = .ok (.aload_n 0, 1) := by decide +kernel
theorem dX11_readCell_132 : decode cX11_readCell 132 = .ok (.getfield 284, 3) := by decide +kernel
theorem dX11_readCell_135 : decode cX11_readCell 135 = .ok (.ifCond .ne 30, 3) := by decide +kernel
theorem dX11_readCell_138 : decode cX11_readCell 138 = .ok (.iload_n 2, 1) := by decide +kernel
theorem dX11_readCell_139 : decode cX11_readCell 139 = .ok (.ifCond .ne 26, 3) := by decide +kernel
theorem dX11_readCell_142 : decode cX11_readCell 142 = .ok (.iload_n 3, 1) := by decide +kernel
theorem dX11_readCell_143 : decode cX11_readCell 143 = .ok (.ifCond .ne 26, 3) := by decide +kernel
theorem dX11_readCell_146 : decode cX11_readCell 146 = .ok (.iload_n 1, 1) := by decide +kernel
theorem dX11_readCell_147 : decode cX11_readCell 147 = .ok (.ifCond .eq 18, 3) := by decide +kernel
theorem dX11_readCell_150 : decode cX11_readCell 150 = .ok (.aload_n 0, 1) := by decide +kernel
theorem dX11_readCell_151 : decode cX11_readCell 151 = .ok (.aload_n 0, 1) := by decide +kernel
theorem dX11_readCell_152 : decode cX11_readCell 152 = .ok (.getfield 336, 3) := by decide +kernel
theorem dX11_readCell_155 : decode cX11_readCell 155 = .ok (.aload_n 0, 1) := by decide +kernel
theorem dX11_readCell_156 : decode cX11_readCell 156 = .ok (.getfield 339, 3) := by decide +kernel
theorem dX11_readCell_159 : decode cX11_readCell 159 = .ok (.invokevirtual 342, 3) := by decide +kernel
theorem dX11_readCell_162 : decode cX11_readCell 162 = .ok (.ifCond .ne 7, 3) := by decide +kernel
theorem dX11_readCell_165 : decode cX11_readCell 165 = .ok (.iconst 1, 1) := by decide +kernel
theorem dX11_readCell_166 : decode cX11_readCell 166 = .ok (.goto 4, 3) := by decide +kernel
theorem dX11_readCell_169 : decode cX11_readCell 169 = .ok (.iconst 0, 1) := by decide +kernel
theorem dX11_readCell_170 : decode cX11_readCell 170 = .ok (.iconst 4, 1) := by decide +kernel
theorem dX11_readCell_171 : decode cX11_readCell 171 = .ok (.invokevirtual 310, 3) := by decide +kernel
theorem dX11_readCell_174 : decode cX11_readCell 174 = .ok (.aload_n 0, 1) := by decide +kernel
theorem dX11_readCell_175 : decode cX11_readCell 175 = .ok (.invokevirtual 314, 3) := by decide +kernel
theorem dX11_readCell_178 : decode cX11_readCell 178 = .ok (.return_, 1) := by decide +kernel
theorem dX11_readWall_0 : decode cX11_readWall 0 = .ok (.aload_n 0, 1) := by decide +kernel
theorem dX11_readWall_1 : decode cX11_readWall 1 = .ok (.iconst 1, 1) := by decide +kernel
theorem dX11_readWall_2 : decode cX11_readWall 2 = .ok (.iconst 0, 1) := by decide +kernel
theorem dX11_readWall_3 : decode cX11_readWall 3 = .ok (.invokevirtual 345, 3) := by decide +kernel
theorem dX11_readWall_6 : decode cX11_readWall 6 = .ok (.aload_n 0, 1) := by decide +kernel
theorem dX11_readWall_7 : decode cX11_readWall 7 = .ok (.getfield 284, 3) := by decide +kernel
theorem dX11_readWall_10 : decode cX11_readWall 10 = .ok (.ifCond .ne 31, 3) := by decide +kernel
theorem dX11_readWall_13 : decode cX11_readWall 13 = .ok (.aload_n 0, 1) := by decide +kernel
theorem dX11_readWall_14 : decode cX11_readWall 14 = .ok (.getfield 13, 3) := by decide +kernel
theorem dX11_readWall_17 : decode cX11_readWall 17 = .ok (.aload_n 0, 1) := by decide +kernel
theorem dX11_readWall_18 : decode cX11_readWall 18 = .ok (.getfield 336, 3) := by decide +kernel
theorem dX11_readWall_21 : decode cX11_readWall 21 = .ok (.aload_n 0, 1) := by decide +kernel
theorem dX11_readWall_22 : decode cX11_readWall 22 = .ok (.getfield 339, 3) := by decide +kernel
theorem dX11_readWall_25 : decode cX11_readWall 25 = .ok (.invokestatic 98, 3) := by decide +kernel
theorem dX11_readWall_28 : decode cX11_readWall 28 = .ok (.iconst 1, 1) := by decide +kernel
theorem dX11_readWall_29 : decode cX11_readWall 29 = .ok (.iastore, 1) := by decide +kernel
theorem dX11_readWall_30 : decode cX11_readWall 30 = .ok (.aload_n 0, 1) := by decide +kernel
theorem dX11_readWall_31 : decode cX11_readWall 31 = .ok (.getfield 13, 3) := by decide +kernel
theorem dX11_readWall_34 : decode cX11_readWall 34 = .ok (.bipush 6, 2) := by decide +kernel
theorem dX11_readWall_36 : decode cX11_readWall 36 = .ok (.dup2, 1) := by decide +kernel
theorem dX11_readWall_37 : decode cX11_readWall 37 = .ok (.iaload, 1) := by decide +kernel
theorem dX11_readWall_38 : decode cX11_readWall 38 = .ok (.iconst 1, 1) := by decide +kernel
theorem dX11_readWall_39 : decode cX11_readWall 39 = .ok (.iadd, 1) := by decide +kernel
theorem dX11_readWall_40 : decode cX11_readWall 40 = .ok (.iastore, 1) := by decide +kernel
theorem dX11_readWall_41 : decode cX11_readWall 41 = .ok (.return_, 1) := by decide +kernel
theorem dX11_readMain_0 : decode cX11_readMain 0 = .ok (.aload_n 0, 1) := by decide +kernel
theorem dX11_readMain_1 : decode cX11_readMain 1 = .ok (.iconst 0, 1) := by decide +kernel
theorem dX11_readMain_2 : decode cX11_readMain 2 = .ok (.iconst 0, 1) := by decide +kernel
theorem dX11_readMain_3 : decode cX11_readMain 3 = .ok (.invokevirtual 345, 3) := by decide +kernel
theorem dX11_readMain_6 : decode cX11_readMain 6 = .ok (.aload_n 0, 1) := by decide +kernel
theorem dX11_readMain_7 : decode cX11_readMain 7 = .ok (.getfield 284, 3) := by decide +kernel
theorem dX11_readMain_10 : decode cX11_readMain 10 = .ok (.ifCond .ne 25, 3) := by decide +kernel
theorem dX11_readMain_13 : decode cX11_readMain 13 = .ok (.aload_n 0, 1) := by decide +kernel
theorem dX11_readMain_14 : decode cX11_readMain 14 = .ok (.getfield 13, 3) := by decide +kernel
theorem dX11_readMain_17 : decode cX11_readMain 17 = .ok (.bipush 10, 2) := by decide +kernel
theorem dX11_readMain_19 : decode cX11_readMain 19 = .ok (.aload_n 0, 1) := by decide +kernel
theorem dX11_readMain_20 : decode cX11_readMain 20 = .ok (.getfield 336, 3) := by decide +kernel
theorem dX11_readMain_23 : decode cX11_readMain 23 = .ok (.iastore, 1) := by decide +kernel
theorem dX11_readMain_24 : decode cX11_readMain 24 = .ok (.aload_n 0, 1) := by decide +kernel
theorem dX11_readMain_25 : decode cX11_readMain 25 = .ok (.getfield 13, 3) := by decide +kernel
theorem dX11_readMain_28 : decode cX11_readMain 28 = .ok (.bipush 11, 2) := by decide +kernel
theorem dX11_readMain_30 : decode cX11_readMain 30 = .ok (.aload_n 0, 1) := by decide +kernel
theorem dX11_readMain_31 : decode cX11_readMain 31 = .ok (.getfield 339, 3) := by decide +kernel
theorem dX11_readMain_34 : decode cX11_readMain 34 = .ok (.iastore, 1) := by decide +kernel
theorem dX11_readMain_35 : decode cX11_readMain 35 = .ok (.return_, 1) := by decide +kernel
theorem dX11_readUnit_0 : decode cX11_readUnit 0 = .ok (.aload_n 0, 1) := by decide +kernel
theorem dX11_readUnit_1 : decode cX11_readUnit 1 = .ok (.aload_n 0, 1) := by decide +kernel
theorem dX11_readUnit_2 : decode cX11_readUnit 2 = .ok (.getfield 13, 3) := by decide +kernel
theorem dX11_readUnit_5 : decode cX11_readUnit 5 = .ok (.iconst 2, 1) := by decide +kernel
theorem dX11_readUnit_6 : decode cX11_readUnit 6 = .ok (.iaload, 1) := by decide +kernel
theorem dX11_readUnit_7 : decode cX11_readUnit 7 = .ok (.bipush 6, 2) := by decide +kernel
theorem dX11_readUnit_9 : decode cX11_readUnit 9 = .ok (.if_icmp .ge 7, 3) := by decide +kernel
theorem dX11_readUnit_12 : decode cX11_readUnit 12 = .ok (.iconst 1, 1) := by decide +kernel
theorem dX11_readUnit_13 : decode cX11_readUnit 13 = .ok (.goto 4, 3) := by decide +kernel
theorem dX11_readUnit_16 : decode cX11_readUnit 16 = .ok (.iconst 0, 1) := by decide +kernel
theorem dX11_readUnit_17 : decode cX11_readUnit 17 = .ok (.iconst 3, 1) := by decide +kernel
theorem dX11_readUnit_18 : decode cX11_readUnit 18 = .ok (.invokevirtual 310, 3) := by decide +kernel
theorem dX11_readUnit_21 : decode cX11_readUnit 21 = .ok (.aload_n 0, 1) := by decide +kernel
theorem dX11_readUnit_22 : decode cX11_readUnit 22 = .ok (.invokevirtual 314, 3) := by decide +kernel
theorem dX11_readUnit_25 : decode cX11_readUnit 25 = .ok (.aload_n 0, 1) := by decide +kernel
theorem dX11_readUnit_26 : decode cX11_readUnit 26 = .ok (.iconst 0, 1) := by decide +kernel
theorem dX11_readUnit_27 : decode cX11_readUnit 27 = .ok (.iconst 0, 1) := by decide +kernel
theorem dX11_readUnit_28 : decode cX11_readUnit 28 = .ok (.invokevirtual 345, 3) := by decide +kernel
theorem dX11_readUnit_31 : decode cX11_readUnit 31 = .ok (.aload_n 0, 1) := by decide +kernel
theorem dX11_readUnit_32 : decode cX11_readUnit 32 = .ok (.iconst 1, 1) := by decide +kernel
theorem dX11_readUnit_33 : decode cX11_readUnit 33 = .ok (.iconst 3, 1) := by decide +kernel
theorem dX11_readUnit_34 : decode cX11_readUnit 34 = .ok (.invokevirtual 333, 3) := by decide +kernel
theorem dX11_readUnit_37 : decode cX11_readUnit 37 = .ok (.istore_n 1, 1) := by decide +kernel
theorem dX11_readUnit_38 : decode cX11_readUnit 38 = .ok (.aload_n 0, 1) := by decide +kernel
theorem dX11_readUnit_39 : decode cX11_readUnit 39 = .ok (.getfield 284, 3) := by decide +kernel
theorem dX11_readUnit_42 : decode cX11_readUnit 42 = .ok (.ifCond .ne 92, 3) := by decide +kernel
theorem dX11_readUnit_45 : decode cX11_readUnit 45 = .ok (.aload_n 0, 1) := by decide +kernel
theorem dX11_readUnit_46 : decode cX11_readUnit 46 = .ok (.getfield 13, 3) := by decide +kernel
theorem dX11_readUnit_49 : decode cX11_readUnit 49 = .ok (.iconst 2, 1) := by decide +kernel
theorem dX11_readUnit_50 : decode cX11_readUnit 50 = .ok (.iaload, 1) := by decide +kernel
theorem dX11_readUnit_51 : decode cX11_readUnit 51 = .ok (.istore_n 2, 1) := by decide +kernel
theorem dX11_readUnit_52 : decode cX11_readUnit 52 = .ok (.aload_n 0, 1) := by decide +kernel
theorem dX11_readUnit_53 : decode cX11_readUnit 53 = .ok (.getfield 13, 3) := by decide +kernel
theorem dX11_readUnit_56 : decode cX11_readUnit 56 = .ok (.iload_n 2, 1) := by decide +kernel
theorem dX11_readUnit_57 : decode cX11_readUnit 57 = .ok (.iconst 0, 1) := by decide +kernel
theorem dX11_readUnit_58 : decode cX11_readUnit 58 = .ok (.invokestatic 80, 3) := by decide +kernel
theorem dX11_readUnit_61 : decode cX11_readUnit 61 = .ok (.aload_n 0, 1) := by decide +kernel
theorem dX11_readUnit_62 : decode cX11_readUnit 62 = .ok (.getfield 336, 3) := by decide +kernel
theorem dX11_readUnit_65 : decode cX11_readUnit 65 = .ok (.iastore, 1) := by decide +kernel
theorem dX11_readUnit_66 : decode cX11_readUnit 66 = .ok (.aload_n 0, 1) := by decide +kernel
theorem dX11_readUnit_67 : decode cX11_readUnit 67 = .ok (.getfield 13, 3) := by decide +kernel
theorem dX11_readUnit_70 : decode cX11_readUnit 70 = .ok (.iload_n 2, 1) := by decide +kernel
theorem dX11_readUnit_71 : decode cX11_readUnit 71 = .ok (.iconst 1, 1) := by decide +kernel
theorem dX11_readUnit_72 : decode cX11_readUnit 72 = .ok (.invokestatic 80, 3) := by decide +kernel
theorem dX11_readUnit_75 : decode cX11_readUnit 75 = .ok (.aload_n 0, 1) := by decide +kernel
theorem dX11_readUnit_76 : decode cX11_readUnit 76 = .ok (.getfield 339, 3) := by decide +kernel
theorem dX11_readUnit_79 : decode cX11_readUnit 79 = .ok (.iastore, 1) := by decide +kernel
theorem dX11_readUnit_80 : decode cX11_readUnit 80 = .ok (.aload_n 0, 1) := by decide +kernel
theorem dX11_readUnit_81 : decode cX11_readUnit 81 = .ok (.getfield 13, 3) := by decide +kernel
theorem dX11_readUnit_84 : decode cX11_readUnit 84 = .ok (.iload_n 2, 1) := by decide +kernel
theorem dX11_readUnit_85 : decode cX11_readUnit 85 = .ok (.iconst 2, 1) := by decide +kernel
theorem dX11_readUnit_86 : decode cX11_readUnit 86 = .ok (.invokestatic 80, 3) := by decide +kernel
theorem dX11_readUnit_89 : decode cX11_readUnit 89 = .ok (.iload_n 1, 1) := by decide +kernel
theorem dX11_readUnit_90 : decode cX11_readUnit 90 = .ok (.iastore, 1) := by decide +kernel
theorem dX11_readUnit_91 : decode cX11_readUnit 91 = .ok (.aload_n 0, 1) := by decide +kernel
theorem dX11_readUnit_92 : decode cX11_readUnit 92 = .ok (.getfield 13, 3) := by decide +kernel
theorem dX11_readUnit_95 : decode cX11_readUnit 95 = .ok (.iload_n 2, 1) := by decide +kernel
theorem dX11_readUnit_96 : decode cX11_readUnit 96 = .ok (.iconst 3, 1) := by decide +kernel
theorem dX11_readUnit_97 : decode cX11_readUnit 97 = .ok (.invokestatic 80, 3) := by decide +kernel
theorem dX11_readUnit_100 : decode cX11_readUnit 100 = .ok (.iconst (-1), 1) := by decide +kernel
theorem dX11_readUnit_101 : decode cX11_readUnit 101 = .ok (.iastore, 1) := by decide +kernel
theorem dX11_readUnit_102 : decode cX11_readUnit 102 = .ok (.aload_n 0, 1) := by decide +kernel
theorem dX11_readUnit_103 : decode cX11_readUnit 103 = .ok (.getfield 13, 3) := by decide +kernel
theorem dX11_readUnit_106 : decode cX11_readUnit 106 = .ok (.iload_n 2, 1) := by decide +kernel
theorem dX11_readUnit_107 : decode cX11_readUnit 107 = .ok (.iconst 0, 1) := by decide +kernel
theorem dX11_readUnit_108 : decode cX11_readUnit 108 = .ok (.invokestatic 177, 3) := by decide +kernel
theorem dX11_readUnit_111 : decode cX11_readUnit 111 = .ok (.bipush 100, 2) := by decide +kernel
theorem dX11_readUnit_113 : decode cX11_readUnit 113 = .ok (.aload_n 0, 1) := by decide +kernel
theorem dX11_readUnit_114 : decode cX11_readUnit 114 = .ok (.getfield 339, 3) := by decide +kernel
theorem dX11_readUnit_117 : decode cX11_readUnit 117 = .ok (.imul, 1) := by decide +kernel
theorem dX11_readUnit_118 : decode cX11_readUnit 118 = .ok (.aload_n 0, 1) := by decide +kernel
theorem dX11_readUnit_119 : decode cX11_readUnit 119 = .ok (.getfield 336, 3) := by decide +kernel
theorem dX11_readUnit_122 : decode cX11_readUnit 122 = .ok (.iadd, 1) := by decide +kernel
theorem dX11_readUnit_123 : decode cX11_readUnit 123 = .ok (.iastore, 1) := by decide +kernel
theorem dX11_readUnit_124 : decode cX11_readUnit 124 = .ok (.aload_n 0, 1) := by decide +kernel
theorem dX11_readUnit_125 : decode cX11_readUnit 125 = .ok (.getfield 13, 3) := by decide +kernel
theorem dX11_readUnit_128 : decode cX11_readUnit 128 = .ok (.iconst 2, 1) := by decide +kernel
theorem dX11_readUnit_129 : decode cX11_readUnit 129 = .ok (.dup2, 1) := by decide +kernel
theorem dX11_readUnit_130 : decode cX11_readUnit 130 = .ok (.iaload, 1) := by decide +kernel
theorem dX11_readUnit_131 : decode cX11_readUnit 131 = .ok (.iconst 1, 1) := by decide +kernel
theorem dX11_readUnit_132 : decode cX11_readUnit 132 = .ok (.iadd, 1) := by decide +kernel
theorem dX11_readUnit_133 : decode cX11_readUnit 133 = .ok (.iastore, 1) := by decide +kernel
theorem dX11_readUnit_134 : decode cX11_readUnit 134 = .ok (.return_, 1) := by decide +kernel
theorem dX11_readPicket_0 : decode cX11_readPicket 0 = .ok (.aload_n 0, 1) := by decide +kernel
theorem dX11_readPicket_1 : decode cX11_readPicket 1 = .ok (.aload_n 0, 1) := by decide +kernel
theorem dX11_readPicket_2 : decode cX11_readPicket 2 = .ok (.getfield 13, 3) := by decide +kernel
theorem dX11_readPicket_5 : decode cX11_readPicket 5 = .ok (.iconst 3, 1) := by decide +kernel
theorem dX11_readPicket_6 : decode cX11_readPicket 6 = .ok (.iaload, 1) := by decide +kernel
theorem dX11_readPicket_7 : decode cX11_readPicket 7 = .ok (.iconst 4, 1) := by decide +kernel
theorem dX11_readPicket_8 : decode cX11_readPicket 8 = .ok (.if_icmp .ge 7, 3) := by decide +kernel
theorem dX11_readPicket_11 : decode cX11_readPicket 11 = .ok (.iconst 1, 1) := by decide +kernel
theorem dX11_readPicket_12 : decode cX11_readPicket 12 = .ok (.goto 4, 3) := by decide +kernel
theorem dX11_readPicket_15 : decode cX11_readPicket 15 = .ok (.iconst 0, 1) := by decide +kernel
theorem dX11_readPicket_16 : decode cX11_readPicket 16 = .ok (.iconst 3, 1) := by decide +kernel
theorem dX11_readPicket_17 : decode cX11_readPicket 17 = .ok (.invokevirtual 310, 3) := by decide +kernel
theorem dX11_readPicket_20 : decode cX11_readPicket 20 = .ok (.aload_n 0, 1) := by decide +kernel
theorem dX11_readPicket_21 : decode cX11_readPicket 21 = .ok (.invokevirtual 314, 3) := by decide +kernel
theorem dX11_readPicket_24 : decode cX11_readPicket 24 = .ok (.aload_n 0, 1) := by decide +kernel
theorem dX11_readPicket_25 : decode cX11_readPicket 25 = .ok (.iconst 0, 1) := by decide +kernel
theorem dX11_readPicket_26 : decode cX11_readPicket 26 = .ok (.iconst 1, 1) := by decide +kernel
theorem dX11_readPicket_27 : decode cX11_readPicket 27 = .ok (.invokevirtual 345, 3) := by decide +kernel
theorem dX11_readPicket_30 : decode cX11_readPicket 30 = .ok (.aload_n 0, 1) := by decide +kernel
theorem dX11_readPicket_31 : decode cX11_readPicket 31 = .ok (.iconst 0, 1) := by decide +kernel
theorem dX11_readPicket_32 : decode cX11_readPicket 32 = .ok (.iconst 3, 1) := by decide +kernel
theorem dX11_readPicket_33 : decode cX11_readPicket 33 = .ok (.invokevirtual 333, 3) := by decide +kernel
theorem dX11_readPicket_36 : decode cX11_readPicket 36 = .ok (.istore_n 1, 1) := by decide +kernel
theorem dX11_readPicket_37 : decode cX11_readPicket 37 = .ok (.aload_n 0, 1) := by decide +kernel
theorem dX11_readPicket_38 : decode cX11_readPicket 38 = .ok (.iconst 1, 1) := by decide +kernel
theorem dX11_readPicket_39 : decode cX11_readPicket 39 = .ok (.bipush 20, 2) := by decide +kernel
theorem dX11_readPicket_41 : decode cX11_readPicket 41 = .ok (.invokevirtual 333, 3) := by decide +kernel
theorem dX11_readPicket_44 : decode cX11_readPicket 44 = .ok (.istore_n 2, 1) := by decide +kernel
theorem dX11_readPicket_45 : decode cX11_readPicket 45 = .ok (.aload_n 0, 1) := by decide +kernel
theorem dX11_readPicket_46 : decode cX11_readPicket 46 = .ok (.iconst 0, 1) := by decide +kernel
theorem dX11_readPicket_47 : decode cX11_readPicket 47 = .ok (.iload_n 2, 1) := by decide +kernel
theorem dX11_readPicket_48 : decode cX11_readPicket 48 = .ok (.iconst 1, 1) := by decide +kernel
theorem dX11_readPicket_49 : decode cX11_readPicket 49 = .ok (.isub, 1) := by decide +kernel
theorem dX11_readPicket_50 : decode cX11_readPicket 50 = .ok (.invokevirtual 333, 3) := by decide +kernel
theorem dX11_readPicket_53 : decode cX11_readPicket 53 = .ok (.istore_n 3, 1) := by decide +kernel
theorem dX11_readPicket_54 : decode cX11_readPicket 54 = .ok (.aload_n 0, 1) := by decide +kernel
theorem dX11_readPicket_55 : decode cX11_readPicket 55 = .ok (.aload_n 0, 1) := by decide +kernel
theorem dX11_readPicket_56 : decode cX11_readPicket 56 = .ok (.getfield 284, 3) := by decide +kernel
theorem dX11_readPicket_59 : decode cX11_readPicket 59 = .ok (.ifCond .ne 11, 3) := by decide +kernel
theorem dX11_readPicket_62 : decode cX11_readPicket 62 = .ok (.aload_n 0, 1) := by decide +kernel
theorem dX11_readPicket_63 : decode cX11_readPicket 63 = .ok (.getfield 275, 3) := by decide +kernel
theorem dX11_readPicket_66 : decode cX11_readPicket 66 = .ok (.iconst 2, 1) := by decide +kernel
theorem dX11_readPicket_67 : decode cX11_readPicket 67 = .ok (.if_icmp .ne 7, 3) := by decide +kernel
theorem dX11_readPicket_70 : decode cX11_readPicket 70 = .ok (.iconst 1, 1) := by decide +kernel
theorem dX11_readPicket_71 : decode cX11_readPicket 71 = .ok (.goto 4, 3) := by decide +kernel
theorem dX11_readPicket_74 : decode cX11_readPicket 74 = .ok (.iconst 0, 1) := by decide +kernel
theorem dX11_readPicket_75 : decode cX11_readPicket 75 = .ok (.iconst 1, 1) := by decide +kernel
theorem dX11_readPicket_76 : decode cX11_readPicket 76 = .ok (.invokevirtual 310, 3) := by decide +kernel
theorem dX11_readPicket_79 : decode cX11_readPicket 79 = .ok (.aload_n 0, 1) := by decide +kernel
theorem dX11_readPicket_80 : decode cX11_readPicket 80 = .ok (.aload_n 0, 1) := by decide +kernel
theorem dX11_readPicket_81 : decode cX11_readPicket 81 = .ok (.getfield 284, 3) := by decide +kernel
theorem dX11_readPicket_84 : decode cX11_readPicket 84 = .ok (.ifCond .ne 17, 3) := by decide +kernel
theorem dX11_readPicket_87 : decode cX11_readPicket 87 = .ok (.aload_n 0, 1) := by decide +kernel
theorem dX11_readPicket_88 : decode cX11_readPicket 88 = .ok (.invokevirtual 330, 3) := by decide +kernel
theorem dX11_readPicket_91 : decode cX11_readPicket 91 = .ok (.iconst 0, 1) := by decide +kernel
theorem dX11_readPicket_92 : decode cX11_readPicket 92 = .ok (.iload_n 2, 1) := by decide +kernel
theorem dX11_readPicket_93 : decode cX11_readPicket 93 = .ok (.iconst 1, 1) := by decide +kernel
theorem dX11_readPicket_94 : decode cX11_readPicket 94 = .ok (.isub, 1) := by decide +kernel
theorem dX11_readPicket_95 : decode cX11_readPicket 95 = .ok (.invokestatic 90, 3) := by decide +kernel
theorem dX11_readPicket_98 : decode cX11_readPicket 98 = .ok (.ifCond .eq 7, 3) := by decide +kernel
theorem dX11_readPicket_101 : decode cX11_readPicket 101 = .ok (.iconst 1, 1) := by decide +kernel
theorem dX11_readPicket_102 : decode cX11_readPicket 102 = .ok (.goto 4, 3) := by decide +kernel
theorem dX11_readPicket_105 : decode cX11_readPicket 105 = .ok (.iconst 0, 1) := by decide +kernel
theorem dX11_readPicket_106 : decode cX11_readPicket 106 = .ok (.iconst 2, 1) := by decide +kernel
theorem dX11_readPicket_107 : decode cX11_readPicket 107 = .ok (.invokevirtual 310, 3) := by decide +kernel
theorem dX11_readPicket_110 : decode cX11_readPicket 110 = .ok (.aload_n 0, 1) := by decide +kernel
theorem dX11_readPicket_111 : decode cX11_readPicket 111 = .ok (.aload_n 0, 1) := by decide +kernel
theorem dX11_readPicket_112 : decode cX11_readPicket 112 = .ok (.getfield 284, 3) := by decide +kernel
theorem dX11_readPicket_115 : decode cX11_readPicket 115 = .ok (.ifCond .ne 11, 3) := by decide +kernel
theorem dX11_readPicket_118 : decode cX11_readPicket 118 = .ok (.aload_n 0, 1) := by decide +kernel
theorem dX11_readPicket_119 : decode cX11_readPicket 119 = .ok (.invokevirtual 330, 3) := by decide +kernel
theorem dX11_readPicket_122 : decode cX11_readPicket 122 = .ok (.iload_n 3, 1) := by decide +kernel
theorem dX11_readPicket_123 : decode cX11_readPicket 123 = .ok (.if_icmp .lt 7, 3) := by decide +kernel
theorem dX11_readPicket_126 : decode cX11_readPicket 126 = .ok (.iconst 1, 1) := by decide +kernel
theorem dX11_readPicket_127 : decode cX11_readPicket 127 = .ok (.goto 4, 3) := by decide +kernel
theorem dX11_readPicket_130 : decode cX11_readPicket 130 = .ok (.iconst 0, 1) := by decide +kernel
theorem dX11_readPicket_131 : decode cX11_readPicket 131 = .ok (.iconst 4, 1) := by decide +kernel
theorem dX11_readPicket_132 : decode cX11_readPicket 132 = .ok (.invokevirtual 310, 3) := by decide +kernel
theorem dX11_readPicket_135 : decode cX11_readPicket 135 = .ok (.aload_n 0, 1) := by decide +kernel
theorem dX11_readPicket_136 : decode cX11_readPicket 136 = .ok (.invokevirtual 330, 3) := by decide +kernel
theorem dX11_readPicket_139 : decode cX11_readPicket 139 = .ok (.istore 4, 2) := by decide +kernel
theorem dX11_readPicket_141 : decode cX11_readPicket 141 = .ok (.aload_n 0, 1) := by decide +kernel
theorem dX11_readPicket_142 : decode cX11_readPicket 142 = .ok (.invokevirtual 314, 3) := by decide +kernel
theorem dX11_readPicket_145 : decode cX11_readPicket 145 = .ok (.aload_n 0, 1) := by decide +kernel
theorem dX11_readPicket_146 : decode cX11_readPicket 146 = .ok (.getfield 284, 3) := by decide +kernel
theorem dX11_readPicket_149 : decode cX11_readPicket 149 = .ok (.ifCond .ne 92, 3) := by decide +kernel
theorem dX11_readPicket_152 : decode cX11_readPicket 152 = .ok (.bipush 7, 2) := by decide +kernel
theorem dX11_readPicket_154 : decode cX11_readPicket 154 = .ok (.newarray .int, 2) := by decide +kernel
theorem dX11_readPicket_156 : decode cX11_readPicket 156 = .ok (.dup, 1) := by decide +kernel
theorem dX11_readPicket_157 : decode cX11_readPicket 157 = .ok (.iconst 0, 1) := by decide +kernel
theorem dX11_readPicket_158 : decode cX11_readPicket 158 = .ok (.aload_n 0, 1) := by decide +kernel
theorem dX11_readPicket_159 : decode cX11_readPicket 159 = .ok (.getfield 336, 3) := by decide +kernel
theorem dX11_readPicket_162 : decode cX11_readPicket 162 = .ok (.iastore, 1) := by decide +kernel
theorem dX11_readPicket_163 : decode cX11_readPicket 163 = .ok (.dup, 1) := by decide +kernel
theorem dX11_readPicket_164 : decode cX11_readPicket 164 = .ok (.iconst 1, 1) := by decide +kernel
theorem dX11_readPicket_165 : decode cX11_readPicket 165 = .ok (.aload_n 0, 1) := by decide +kernel
theorem dX11_readPicket_166 : decode cX11_readPicket 166 = .ok (.getfield 339, 3) := by decide +kernel
theorem dX11_readPicket_169 : decode cX11_readPicket 169 = .ok (.iastore, 1) := by decide +kernel
theorem dX11_readPicket_170 : decode cX11_readPicket 170 = .ok (.dup, 1) := by decide +kernel
theorem dX11_readPicket_171 : decode cX11_readPicket 171 = .ok (.iconst 2, 1) := by decide +kernel
theorem dX11_readPicket_172 : decode cX11_readPicket 172 = .ok (.iload_n 1, 1) := by decide +kernel
theorem dX11_readPicket_173 : decode cX11_readPicket 173 = .ok (.iastore, 1) := by decide +kernel
theorem dX11_readPicket_174 : decode cX11_readPicket 174 = .ok (.dup, 1) := by decide +kernel
theorem dX11_readPicket_175 : decode cX11_readPicket 175 = .ok (.iconst 3, 1) := by decide +kernel
theorem dX11_readPicket_176 : decode cX11_readPicket 176 = .ok (.iload_n 2, 1) := by decide +kernel
theorem dX11_readPicket_177 : decode cX11_readPicket 177 = .ok (.iastore, 1) := by decide +kernel
theorem dX11_readPicket_178 : decode cX11_readPicket 178 = .ok (.dup, 1) := by decide +kernel
theorem dX11_readPicket_179 : decode cX11_readPicket 179 = .ok (.iconst 4, 1) := by decide +kernel
theorem dX11_readPicket_180 : decode cX11_readPicket 180 = .ok (.iload_n 3, 1) := by decide +kernel
theorem dX11_readPicket_181 : decode cX11_readPicket 181 = .ok (.iastore, 1) := by decide +kernel
theorem dX11_readPicket_182 : decode cX11_readPicket 182 = .ok (.dup, 1) := by decide +kernel
theorem dX11_readPicket_183 : decode cX11_readPicket 183 = .ok (.iconst 5, 1) := by decide +kernel
theorem dX11_readPicket_184 : decode cX11_readPicket 184 = .ok (.iload 4, 2) := by decide +kernel
theorem dX11_readPicket_186 : decode cX11_readPicket 186 = .ok (.iastore, 1) := by decide +kernel
theorem dX11_readPicket_187 : decode cX11_readPicket 187 = .ok (.dup, 1) := by decide +kernel
theorem dX11_readPicket_188 : decode cX11_readPicket 188 = .ok (.bipush 6, 2) := by decide +kernel
theorem dX11_readPicket_190 : decode cX11_readPicket 190 = .ok (.iconst 0, 1) := by decide +kernel
theorem dX11_readPicket_191 : decode cX11_readPicket 191 = .ok (.iastore, 1) := by decide +kernel
theorem dX11_readPicket_192 : decode cX11_readPicket 192 = .ok (.astore 5, 2) := by decide +kernel
theorem dX11_readPicket_194 : decode cX11_readPicket 194 = .ok (.iconst 0, 1) := by decide +kernel
theorem dX11_readPicket_195 : decode cX11_readPicket 195 = .ok (.istore 6, 2) := by decide +kernel
theorem dX11_readPicket_197 : decode cX11_readPicket 197 = .ok (.iload 6, 2) := by decide +kernel
theorem dX11_readPicket_199 : decode cX11_readPicket 199 = .ok (.bipush 7, 2) := by decide +kernel
theorem dX11_readPicket_201 : decode cX11_readPicket 201 = .ok (.if_icmp .ge 30, 3) := by decide +kernel
theorem dX11_readPicket_204 : decode cX11_readPicket 204 = .ok (.aload_n 0, 1) := by decide +kernel
theorem dX11_readPicket_205 : decode cX11_readPicket 205 = .ok (.getfield 13, 3) := by decide +kernel
theorem dX11_readPicket_208 : decode cX11_readPicket 208 = .ok (.aload_n 0, 1) := by decide +kernel
theorem dX11_readPicket_209 : decode cX11_readPicket 209 = .ok (.getfield 13, 3) := by decide +kernel
theorem dX11_readPicket_212 : decode cX11_readPicket 212 = .ok (.iconst 3, 1) := by decide +kernel
theorem dX11_readPicket_213 : decode cX11_readPicket 213 = .ok (.iaload, 1) := by decide +kernel
theorem dX11_readPicket_214 : decode cX11_readPicket 214 = .ok (.iload 6, 2) := by decide +kernel
theorem dX11_readPicket_216 : decode cX11_readPicket 216 = .ok (.invokestatic 84, 3) := by decide +kernel
theorem dX11_readPicket_219 : decode cX11_readPicket 219 = .ok (.aload 5, 2) := by decide +kernel
theorem dX11_readPicket_221 : decode cX11_readPicket 221 = .ok (.iload 6, 2) := by decide +kernel
theorem dX11_readPicket_223 : decode cX11_readPicket 223 = .ok (.iaload, 1) := by decide +kernel
theorem dX11_readPicket_224 : decode cX11_readPicket 224 = .ok (.iastore, 1) := by decide +kernel
theorem dX11_readPicket_225 : decode cX11_readPicket 225 = .ok (.iinc 6 1, 3) := by decide +kernel
theorem dX11_readPicket_228 : decode cX11_readPicket 228 = .ok (.goto (-31), 3) := by decide +kernel
theorem dX11_readPicket_231 : decode cX11_readPicket 231 = .ok (.aload_n 0, 1) := by decide +kernel
theorem dX11_readPicket_232 : decode cX11_readPicket 232 = .ok (.getfield 13, 3) := by decide +kernel
theorem dX11_readPicket_235 : decode cX11_readPicket 235 = .ok (.iconst 3, 1) := by decide +kernel
theorem dX11_readPicket_236 : decode cX11_readPicket 236 = .ok (.dup2, 1) := by decide +kernel
theorem dX11_readPicket_237 : decode cX11_readPicket 237 = .ok (.iaload, 1) := by decide +kernel
theorem dX11_readPicket_238 : decode cX11_readPicket 238 = .ok (.iconst 1, 1) := by decide +kernel
theorem dX11_readPicket_239 : decode cX11_readPicket 239 = .ok (.iadd, 1) := by decide +kernel
theorem dX11_readPicket_240 : decode cX11_readPicket 240 = .ok (.iastore, 1) := by decide +kernel
theorem dX11_readPicket_241 : decode cX11_readPicket 241 = .ok (.return_, 1) := by decide +kernel
theorem dX11_readPlan_0 : decode cX11_readPlan 0 = .ok (.aload_n 0, 1) := by decide +kernel
theorem dX11_readPlan_1 : decode cX11_readPlan 1 = .ok (.aload_n 0, 1) := by decide +kernel
theorem dX11_readPlan_2 : decode cX11_readPlan 2 = .ok (.getfield 13, 3) := by decide +kernel
theorem dX11_readPlan_5 : decode cX11_readPlan 5 = .ok (.bipush 8, 2) := by decide +kernel
theorem dX11_readPlan_7 : decode cX11_readPlan 7 = .ok (.iaload, 1) := by decide +kernel
theorem dX11_readPlan_8 : decode cX11_readPlan 8 = .ok (.bipush 20, 2) := by decide +kernel
theorem dX11_readPlan_10 : decode cX11_readPlan 10 = .ok (.if_icmp .ge 7, 3) := by decide +kernel
theorem dX11_readPlan_13 : decode cX11_readPlan 13 = .ok (.iconst 1, 1) := by decide +kernel
theorem dX11_readPlan_14 : decode cX11_readPlan 14 = .ok (.goto 4, 3) := by decide +kernel
theorem dX11_readPlan_17 : decode cX11_readPlan 17 = .ok (.iconst 0, 1) := by decide +kernel
theorem dX11_readPlan_18 : decode cX11_readPlan 18 = .ok (.iconst 3, 1) := by decide +kernel
theorem dX11_readPlan_19 : decode cX11_readPlan 19 = .ok (.invokevirtual 310, 3) := by decide +kernel
theorem dX11_readPlan_22 : decode cX11_readPlan 22 = .ok (.aload_n 0, 1) := by decide +kernel
theorem dX11_readPlan_23 : decode cX11_readPlan 23 = .ok (.invokevirtual 314, 3) := by decide +kernel
theorem dX11_readPlan_26 : decode cX11_readPlan 26 = .ok (.aload_n 0, 1) := by decide +kernel
theorem dX11_readPlan_27 : decode cX11_readPlan 27 = .ok (.iconst 0, 1) := by decide +kernel
theorem dX11_readPlan_28 : decode cX11_readPlan 28 = .ok (.aload_n 0, 1) := by decide +kernel
theorem dX11_readPlan_29 : decode cX11_readPlan 29 = .ok (.getfield 13, 3) := by decide +kernel
theorem dX11_readPlan_32 : decode cX11_readPlan 32 = .ok (.iconst 2, 1) := by decide +kernel
theorem dX11_readPlan_33 : decode cX11_readPlan 33 = .ok (.iaload, 1) := by decide +kernel
theorem dX11_readPlan_34 : decode cX11_readPlan 34 = .ok (.iconst 1, 1) := by decide +kernel
theorem dX11_readPlan_35 : decode cX11_readPlan 35 = .ok (.isub, 1) := by decide +kernel
theorem dX11_readPlan_36 : decode cX11_readPlan 36 = .ok (.invokevirtual 333, 3) := by decide +kernel
theorem dX11_readPlan_39 : decode cX11_readPlan 39 = .ok (.istore_n 1, 1) := by decide +kernel
theorem dX11_readPlan_40 : decode cX11_readPlan 40 = .ok (.aload_n 0, 1) := by decide +kernel
theorem dX11_readPlan_41 : decode cX11_readPlan 41 = .ok (.iconst 0, 1) := by decide +kernel
theorem dX11_readPlan_42 : decode cX11_readPlan 42 = .ok (.iconst 0, 1) := by decide +kernel
theorem dX11_readPlan_43 : decode cX11_readPlan 43 = .ok (.invokevirtual 345, 3) := by decide +kernel
theorem dX11_readPlan_46 : decode cX11_readPlan 46 = .ok (.aload_n 0, 1) := by decide +kernel
theorem dX11_readPlan_47 : decode cX11_readPlan 47 = .ok (.iconst 0, 1) := by decide +kernel
theorem dX11_readPlan_48 : decode cX11_readPlan 48 = .ok (.sipush 499, 3) := by decide +kernel
theorem dX11_readPlan_51 : decode cX11_readPlan 51 = .ok (.invokevirtual 333, 3) := by decide +kernel
theorem dX11_readPlan_54 : decode cX11_readPlan 54 = .ok (.istore_n 2, 1) := by decide +kernel
theorem dX11_readPlan_55 : decode cX11_readPlan 55 = .ok (.aload_n 0, 1) := by decide +kernel
theorem dX11_readPlan_56 : decode cX11_readPlan 56 = .ok (.getfield 284, 3) := by decide +kernel
theorem dX11_readPlan_59 : decode cX11_readPlan 59 = .ok (.ifCond .ne 72, 3) := by decide +kernel
theorem dX11_readPlan_62 : decode cX11_readPlan 62 = .ok (.aload_n 0, 1) := by decide +kernel
theorem dX11_readPlan_63 : decode cX11_readPlan 63 = .ok (.getfield 13, 3) := by decide +kernel
theorem dX11_readPlan_66 : decode cX11_readPlan 66 = .ok (.bipush 8, 2) := by decide +kernel
theorem dX11_readPlan_68 : decode cX11_readPlan 68 = .ok (.iaload, 1) := by decide +kernel
theorem dX11_readPlan_69 : decode cX11_readPlan 69 = .ok (.istore_n 3, 1) := by decide +kernel
theorem dX11_readPlan_70 : decode cX11_readPlan 70 = .ok (.aload_n 0, 1) := by decide +kernel
theorem dX11_readPlan_71 : decode cX11_readPlan 71 = .ok (.getfield 13, 3) := by decide +kernel
theorem dX11_readPlan_74 : decode cX11_readPlan 74 = .ok (.iload_n 3, 1) := by decide +kernel
theorem dX11_readPlan_75 : decode cX11_readPlan 75 = .ok (.iconst 0, 1) := by decide +kernel
theorem dX11_readPlan_76 : decode cX11_readPlan 76 = .ok (.invokestatic 164, 3) := by decide +kernel
theorem dX11_readPlan_79 : decode cX11_readPlan 79 = .ok (.iload_n 1, 1) := by decide +kernel
theorem dX11_readPlan_80 : decode cX11_readPlan 80 = .ok (.iastore, 1) := by decide +kernel
theorem dX11_readPlan_81 : decode cX11_readPlan 81 = .ok (.aload_n 0, 1) := by decide +kernel
theorem dX11_readPlan_82 : decode cX11_readPlan 82 = .ok (.getfield 13, 3) := by decide +kernel
theorem dX11_readPlan_85 : decode cX11_readPlan 85 = .ok (.iload_n 3, 1) := by decide +kernel
theorem dX11_readPlan_86 : decode cX11_readPlan 86 = .ok (.iconst 1, 1) := by decide +kernel
theorem dX11_readPlan_87 : decode cX11_readPlan 87 = .ok (.invokestatic 164, 3) := by decide +kernel
theorem dX11_readPlan_90 : decode cX11_readPlan 90 = .ok (.aload_n 0, 1) := by decide +kernel
theorem dX11_readPlan_91 : decode cX11_readPlan 91 = .ok (.getfield 336, 3) := by decide +kernel
theorem dX11_readPlan_94 : decode cX11_readPlan 94 = .ok (.iastore, 1) := by decide +kernel
theorem dX11_readPlan_95 : decode cX11_readPlan 95 = .ok (.aload_n 0, 1) := by decide +kernel
theorem dX11_readPlan_96 : decode cX11_readPlan 96 = .ok (.getfield 13, 3) := by decide +kernel
theorem dX11_readPlan_99 : decode cX11_readPlan 99 = .ok (.iload_n 3, 1) := by decide +kernel
theorem dX11_readPlan_100 : decode cX11_readPlan 100 = .ok (.iconst 2, 1) := by decide +kernel
theorem dX11_readPlan_101 : decode cX11_readPlan 101 = .ok (.invokestatic 164, 3) := by decide +kernel
theorem dX11_readPlan_104 : decode cX11_readPlan 104 = .ok (.aload_n 0, 1) := by decide +kernel
theorem dX11_readPlan_105 : decode cX11_readPlan 105 = .ok (.getfield 339, 3) := by decide +kernel
theorem dX11_readPlan_108 : decode cX11_readPlan 108 = .ok (.iastore, 1) := by decide +kernel
theorem dX11_readPlan_109 : decode cX11_readPlan 109 = .ok (.aload_n 0, 1) := by decide +kernel
theorem dX11_readPlan_110 : decode cX11_readPlan 110 = .ok (.getfield 13, 3) := by decide +kernel
theorem dX11_readPlan_113 : decode cX11_readPlan 113 = .ok (.iload_n 3, 1) := by decide +kernel
theorem dX11_readPlan_114 : decode cX11_readPlan 114 = .ok (.iconst 3, 1) := by decide +kernel
theorem dX11_readPlan_115 : decode cX11_readPlan 115 = .ok (.invokestatic 164, 3) := by decide +kernel
theorem dX11_readPlan_118 : decode cX11_readPlan 118 = .ok (.iload_n 2, 1) := by decide +kernel
theorem dX11_readPlan_119 : decode cX11_readPlan 119 = .ok (.iastore, 1) := by decide +kernel
theorem dX11_readPlan_120 : decode cX11_readPlan 120 = .ok (.aload_n 0, 1) := by decide +kernel
theorem dX11_readPlan_121 : decode cX11_readPlan 121 = .ok (.getfield 13, 3) := by decide +kernel
theorem dX11_readPlan_124 : decode cX11_readPlan 124 = .ok (.bipush 8, 2) := by decide +kernel
theorem dX11_readPlan_126 : decode cX11_readPlan 126 = .ok (.dup2, 1) := by decide +kernel
theorem dX11_readPlan_127 : decode cX11_readPlan 127 = .ok (.iaload, 1) := by decide +kernel
theorem dX11_readPlan_128 : decode cX11_readPlan 128 = .ok (.iconst 1, 1) := by decide +kernel
theorem dX11_readPlan_129 : decode cX11_readPlan 129 = .ok (.iadd, 1) := by decide +kernel
theorem dX11_readPlan_130 : decode cX11_readPlan 130 = .ok (.iastore, 1) := by decide +kernel
theorem dX11_readPlan_131 : decode cX11_readPlan 131 = .ok (.return_, 1) := by decide +kernel
theorem dX11_readClause_0 : decode cX11_readClause 0 = .ok (.aload_n 0, 1) := by decide +kernel
theorem dX11_readClause_1 : decode cX11_readClause 1 = .ok (.ldc_w 349, 3) := by decide +kernel
theorem dX11_readClause_4 : decode cX11_readClause 4 = .ok (.invokevirtual 351, 3) := by decide +kernel
theorem dX11_readClause_7 : decode cX11_readClause 7 = .ok (.ifCond .eq 10, 3) := by decide +kernel
theorem dX11_readClause_10 : decode cX11_readClause 10 = .ok (.aload_n 0, 1) := by decide +kernel
theorem dX11_readClause_11 : decode cX11_readClause 11 = .ok (.invokevirtual 354, 3) := by decide +kernel
theorem dX11_readClause_14 : decode cX11_readClause 14 = .ok (.goto 115, 3) := by decide +kernel
theorem dX11_readClause_17 : decode cX11_readClause 17 = .ok (.aload_n 0, 1) := by decide +kernel
theorem dX11_readClause_18 : decode cX11_readClause 18 = .ok (.ldc_w 357, 3) := by decide +kernel
theorem dX11_readClause_21 : decode cX11_readClause 21 = .ok (.invokevirtual 351, 3) := by decide +kernel
theorem dX11_readClause_24 : decode cX11_readClause 24 = .ok (.ifCond .eq 10, 3) := by decide +kernel
theorem dX11_readClause_27 : decode cX11_readClause 27 = .ok (.aload_n 0, 1) := by decide +kernel
theorem dX11_readClause_28 : decode cX11_readClause 28 = .ok (.invokevirtual 359, 3) := by decide +kernel
theorem dX11_readClause_31 : decode cX11_readClause 31 = .ok (.goto 98, 3) := by decide +kernel
theorem dX11_readClause_34 : decode cX11_readClause 34 = .ok (.aload_n 0, 1) := by decide +kernel
theorem dX11_readClause_35 : decode cX11_readClause 35 = .ok (.ldc 46, 2) := by decide +kernel
theorem dX11_readClause_37 : decode cX11_readClause 37 = .ok (.invokevirtual 306, 3) := by decide +kernel
theorem dX11_readClause_40 : decode cX11_readClause 40 = .ok (.ifCond .eq 10, 3) := by decide +kernel
theorem dX11_readClause_43 : decode cX11_readClause 43 = .ok (.aload_n 0, 1) := by decide +kernel
theorem dX11_readClause_44 : decode cX11_readClause 44 = .ok (.invokevirtual 362, 3) := by decide +kernel
theorem dX11_readClause_47 : decode cX11_readClause 47 = .ok (.goto 82, 3) := by decide +kernel
theorem dX11_readClause_50 : decode cX11_readClause 50 = .ok (.aload_n 0, 1) := by decide +kernel
theorem dX11_readClause_51 : decode cX11_readClause 51 = .ok (.ldc_w 365, 3) := by decide +kernel
theorem dX11_readClause_54 : decode cX11_readClause 54 = .ok (.invokevirtual 306, 3) := by decide +kernel
theorem dX11_readClause_57 : decode cX11_readClause 57 = .ok (.ifCond .eq 10, 3) := by decide +kernel
theorem dX11_readClause_60 : decode cX11_readClause 60 = .ok (.aload_n 0, 1) := by decide +kernel
theorem dX11_readClause_61 : decode cX11_readClause 61 = .ok (.invokevirtual 367, 3) := by decide +kernel
theorem dX11_readClause_64 : decode cX11_readClause 64 = .ok (.goto 65, 3) := by decide +kernel
theorem dX11_readClause_67 : decode cX11_readClause 67 = .ok (.aload_n 0, 1) := by decide +kernel
theorem dX11_readClause_68 : decode cX11_readClause 68 = .ok (.ldc_w 370, 3) := by decide +kernel
theorem dX11_readClause_71 : decode cX11_readClause 71 = .ok (.invokevirtual 351, 3) := by decide +kernel
theorem dX11_readClause_74 : decode cX11_readClause 74 = .ok (.ifCond .eq 39, 3) := by decide +kernel
theorem dX11_readClause_77 : decode cX11_readClause 77 = .ok (.aload_n 0, 1) := by decide +kernel
theorem dX11_readClause_78 : decode cX11_readClause 78 = .ok (.iconst 1, 1) := by decide +kernel
theorem dX11_readClause_79 : decode cX11_readClause 79 = .ok (.bipush 30, 2) := by decide +kernel
theorem dX11_readClause_81 : decode cX11_readClause 81 = .ok (.invokevirtual 333, 3) := by decide +kernel
theorem dX11_readClause_84 : decode cX11_readClause 84 = .ok (.istore_n 1, 1) := by decide +kernel
theorem dX11_readClause_85 : decode cX11_readClause 85 = .ok (.aload_n 0, 1) := by decide +kernel
theorem dX11_readClause_86 : decode cX11_readClause 86 = .ok (.getfield 13, 3) := by decide +kernel
theorem dX11_readClause_89 : decode cX11_readClause 89 = .ok (.bipush 9, 2) := by decide +kernel
theorem dX11_readClause_91 : decode cX11_readClause 91 = .ok (.aload_n 0, 1) := by decide +kernel
theorem dX11_readClause_92 : decode cX11_readClause 92 = .ok (.getfield 284, 3) := by decide +kernel
theorem dX11_readClause_95 : decode cX11_readClause 95 = .ok (.ifCond .ne 7, 3) := by decide +kernel
theorem dX11_readClause_98 : decode cX11_readClause 98 = .ok (.iload_n 1, 1) := by decide +kernel
theorem dX11_readClause_99 : decode cX11_readClause 99 = .ok (.goto 10, 3) := by decide +kernel
theorem dX11_readClause_102 : decode cX11_readClause 102 = .ok (.aload_n 0, 1) := by decide +kernel
theorem dX11_readClause_103 : decode cX11_readClause 103 = .ok (.getfield 13, 3) := by decide +kernel
theorem dX11_readClause_106 : decode cX11_readClause 106 = .ok (.bipush 9, 2) := by decide +kernel
theorem dX11_readClause_108 : decode cX11_readClause 108 = .ok (.iaload, 1) := by decide +kernel
theorem dX11_readClause_109 : decode cX11_readClause 109 = .ok (.iastore, 1) := by decide +kernel
theorem dX11_readClause_110 : decode cX11_readClause 110 = .ok (.goto 19, 3) := by decide +kernel
theorem dX11_readClause_113 : decode cX11_readClause 113 = .ok (.aload_n 0, 1) := by decide +kernel
theorem dX11_readClause_114 : decode cX11_readClause 114 = .ok (.aload_n 0, 1) := by decide +kernel
theorem dX11_readClause_115 : decode cX11_readClause 115 = .ok (.ldc_w 372, 3) := by decide +kernel
theorem dX11_readClause_118 : decode cX11_readClause 118 = .ok (.invokevirtual 306, 3) := by decide +kernel
theorem dX11_readClause_121 : decode cX11_readClause 121 = .ok (.iconst 1, 1) := by decide +kernel
theorem dX11_readClause_122 : decode cX11_readClause 122 = .ok (.invokevirtual 310, 3) := by decide +kernel
theorem dX11_readClause_125 : decode cX11_readClause 125 = .ok (.aload_n 0, 1) := by decide +kernel
theorem dX11_readClause_126 : decode cX11_readClause 126 = .ok (.invokevirtual 374, 3) := by decide +kernel
theorem dX11_readClause_129 : decode cX11_readClause 129 = .ok (.aload_n 0, 1) := by decide +kernel
theorem dX11_readClause_130 : decode cX11_readClause 130 = .ok (.bipush 59, 2) := by decide +kernel
theorem dX11_readClause_132 : decode cX11_readClause 132 = .ok (.invokevirtual 377, 3) := by decide +kernel
theorem dX11_readClause_135 : decode cX11_readClause 135 = .ok (.return_, 1) := by decide +kernel
theorem dX11_readAll_0 : decode cX11_readAll 0 = .ok (.aload_n 0, 1) := by decide +kernel
theorem dX11_readAll_1 : decode cX11_readAll 1 = .ok (.ldc_w 380, 3) := by decide +kernel
theorem dX11_readAll_4 : decode cX11_readAll 4 = .ok (.invokevirtual 382, 3) := by decide +kernel
theorem dX11_readAll_7 : decode cX11_readAll 7 = .ok (.aload_n 0, 1) := by decide +kernel
theorem dX11_readAll_8 : decode cX11_readAll 8 = .ok (.getfield 13, 3) := by decide +kernel
theorem dX11_readAll_11 : decode cX11_readAll 11 = .ok (.iconst 0, 1) := by decide +kernel
theorem dX11_readAll_12 : decode cX11_readAll 12 = .ok (.aload_n 0, 1) := by decide +kernel
theorem dX11_readAll_13 : decode cX11_readAll 13 = .ok (.iconst 3, 1) := by decide +kernel
theorem dX11_readAll_14 : decode cX11_readAll 14 = .ok (.bipush 12, 2) := by decide +kernel
theorem dX11_readAll_16 : decode cX11_readAll 16 = .ok (.invokevirtual 333, 3) := by decide +kernel
theorem dX11_readAll_19 : decode cX11_readAll 19 = .ok (.iastore, 1) := by decide +kernel
theorem dX11_readAll_20 : decode cX11_readAll 20 = .ok (.aload_n 0, 1) := by decide +kernel
theorem dX11_readAll_21 : decode cX11_readAll 21 = .ok (.getfield 13, 3) := by decide +kernel
theorem dX11_readAll_24 : decode cX11_readAll 24 = .ok (.iconst 1, 1) := by decide +kernel
theorem dX11_readAll_25 : decode cX11_readAll 25 = .ok (.aload_n 0, 1) := by decide +kernel
theorem dX11_readAll_26 : decode cX11_readAll 26 = .ok (.iconst 3, 1) := by decide +kernel
theorem dX11_readAll_27 : decode cX11_readAll 27 = .ok (.bipush 12, 2) := by decide +kernel
theorem dX11_readAll_29 : decode cX11_readAll 29 = .ok (.invokevirtual 333, 3) := by decide +kernel
theorem dX11_readAll_32 : decode cX11_readAll 32 = .ok (.iastore, 1) := by decide +kernel
theorem dX11_readAll_33 : decode cX11_readAll 33 = .ok (.aload_n 0, 1) := by decide +kernel
theorem dX11_readAll_34 : decode cX11_readAll 34 = .ok (.bipush 59, 2) := by decide +kernel
theorem dX11_readAll_36 : decode cX11_readAll 36 = .ok (.invokevirtual 377, 3) := by decide +kernel
theorem dX11_readAll_39 : decode cX11_readAll 39 = .ok (.aload_n 0, 1) := by decide +kernel
theorem dX11_readAll_40 : decode cX11_readAll 40 = .ok (.getfield 284, 3) := by decide +kernel
theorem dX11_readAll_43 : decode cX11_readAll 43 = .ok (.ifCond .ne 17, 3) := by decide +kernel
theorem dX11_readAll_46 : decode cX11_readAll 46 = .ok (.aload_n 0, 1) := by decide +kernel
theorem dX11_readAll_47 : decode cX11_readAll 47 = .ok (.getfield 275, 3) := by decide +kernel
theorem dX11_readAll_50 : decode cX11_readAll 50 = .ok (.ifCond .eq 10, 3) := by decide +kernel
theorem dX11_readAll_53 : decode cX11_readAll 53 = .ok (.aload_n 0, 1) := by decide +kernel
theorem dX11_readAll_54 : decode cX11_readAll 54 = .ok (.invokevirtual 386, 3) := by decide +kernel
theorem dX11_readAll_57 : decode cX11_readAll 57 = .ok (.goto (-18), 3) := by decide +kernel
theorem dX11_readAll_60 : decode cX11_readAll 60 = .ok (.return_, 1) := by decide +kernel
theorem dX11_load_0 : decode cX11_load 0 = .ok (.aload_n 0, 1) := by decide +kernel
theorem dX11_load_1 : decode cX11_load 1 = .ok (.iconst 0, 1) := by decide +kernel
theorem dX11_load_2 : decode cX11_load 2 = .ok (.putfield 77, 3) := by decide +kernel
theorem dX11_load_5 : decode cX11_load 5 = .ok (.iload_n 1, 1) := by decide +kernel
theorem dX11_load_6 : decode cX11_load 6 = .ok (.iconst 0, 1) := by decide +kernel
theorem dX11_load_7 : decode cX11_load 7 = .ok (.aload_n 0, 1) := by decide +kernel
theorem dX11_load_8 : decode cX11_load 8 = .ok (.getfield 260, 3) := by decide +kernel
theorem dX11_load_11 : decode cX11_load 11 = .ok (.invokestatic 90, 3) := by decide +kernel
theorem dX11_load_14 : decode cX11_load 14 = .ok (.ifCond .ne 9, 3) := by decide +kernel
theorem dX11_load_17 : decode cX11_load 17 = .ok (.aload_n 0, 1) := by decide +kernel
theorem dX11_load_18 : decode cX11_load 18 = .ok (.iconst 1, 1) := by decide +kernel
theorem dX11_load_19 : decode cX11_load 19 = .ok (.invokevirtual 192, 3) := by decide +kernel
theorem dX11_load_22 : decode cX11_load 22 = .ok (.ireturn, 1) := by decide +kernel
theorem dX11_load_23 : decode cX11_load 23 = .ok (.aload_n 0, 1) := by decide +kernel
theorem dX11_load_24 : decode cX11_load 24 = .ok (.getfield 13, 3) := by decide +kernel
theorem dX11_load_27 : decode cX11_load 27 = .ok (.invokestatic 73, 3) := by decide +kernel
theorem dX11_load_30 : decode cX11_load 30 = .ok (.aload_n 0, 1) := by decide +kernel
theorem dX11_load_31 : decode cX11_load 31 = .ok (.iload_n 1, 1) := by decide +kernel
theorem dX11_load_32 : decode cX11_load 32 = .ok (.invokevirtual 389, 3) := by decide +kernel
theorem dX11_load_35 : decode cX11_load 35 = .ok (.aload_n 0, 1) := by decide +kernel
theorem dX11_load_36 : decode cX11_load 36 = .ok (.invokevirtual 392, 3) := by decide +kernel
theorem dX11_load_39 : decode cX11_load 39 = .ok (.aload_n 0, 1) := by decide +kernel
theorem dX11_load_40 : decode cX11_load 40 = .ok (.invokevirtual 395, 3) := by decide +kernel
theorem dX11_load_43 : decode cX11_load 43 = .ok (.ifCond .eq 11, 3) := by decide +kernel
theorem dX11_load_46 : decode cX11_load 46 = .ok (.bipush (-10), 2) := by decide +kernel
theorem dX11_load_48 : decode cX11_load 48 = .ok (.aload_n 0, 1) := by decide +kernel
theorem dX11_load_49 : decode cX11_load 49 = .ok (.getfield 284, 3) := by decide +kernel
theorem dX11_load_52 : decode cX11_load 52 = .ok (.isub, 1) := by decide +kernel
theorem dX11_load_53 : decode cX11_load 53 = .ok (.ireturn, 1) := by decide +kernel
theorem dX11_load_54 : decode cX11_load 54 = .ok (.aload_n 0, 1) := by decide +kernel
theorem dX11_load_55 : decode cX11_load 55 = .ok (.getfield 13, 3) := by decide +kernel
theorem dX11_load_58 : decode cX11_load 58 = .ok (.iconst 0, 1) := by decide +kernel
theorem dX11_load_59 : decode cX11_load 59 = .ok (.aload_n 0, 1) := by decide +kernel
theorem dX11_load_60 : decode cX11_load 60 = .ok (.getfield 9, 3) := by decide +kernel
theorem dX11_load_63 : decode cX11_load 63 = .ok (.iconst 0, 1) := by decide +kernel
theorem dX11_load_64 : decode cX11_load 64 = .ok (.invokestatic 213, 3) := by decide +kernel
theorem dX11_load_67 : decode cX11_load 67 = .ok (.aload_n 0, 1) := by decide +kernel
theorem dX11_load_68 : decode cX11_load 68 = .ok (.iconst 0, 1) := by decide +kernel
theorem dX11_load_69 : decode cX11_load 69 = .ok (.putfield 253, 3) := by decide +kernel
theorem dX11_load_72 : decode cX11_load 72 = .ok (.aload_n 0, 1) := by decide +kernel
theorem dX11_load_73 : decode cX11_load 73 = .ok (.iconst 0, 1) := by decide +kernel
theorem dX11_load_74 : decode cX11_load 74 = .ok (.putfield 256, 3) := by decide +kernel
theorem dX11_load_77 : decode cX11_load 77 = .ok (.aload_n 0, 1) := by decide +kernel
theorem dX11_load_78 : decode cX11_load 78 = .ok (.getfield 9, 3) := by decide +kernel
theorem dX11_load_81 : decode cX11_load 81 = .ok (.iconst 2, 1) := by decide +kernel
theorem dX11_load_82 : decode cX11_load 82 = .ok (.iaload, 1) := by decide +kernel
theorem dX11_load_83 : decode cX11_load 83 = .ok (.ireturn, 1) := by decide +kernel
theorem dX11_emit_0 : decode cX11_emit 0 = .ok (.aload_n 0, 1) := by decide +kernel
theorem dX11_emit_1 : decode cX11_emit 1 = .ok (.getfield 284, 3) := by decide +kernel
theorem dX11_emit_4 : decode cX11_emit 4 = .ok (.ifCond .ne 23, 3) := by decide +kernel
theorem dX11_emit_7 : decode cX11_emit 7 = .ok (.aload_n 0, 1) := by decide +kernel
theorem dX11_emit_8 : decode cX11_emit 8 = .ok (.getfield 66, 3) := by decide +kernel
theorem dX11_emit_11 : decode cX11_emit 11 = .ok (.aload_n 0, 1) := by decide +kernel
theorem dX11_emit_12 : decode cX11_emit 12 = .ok (.getfield 398, 3) := by decide +kernel
theorem dX11_emit_15 : decode cX11_emit 15 = .ok (.iload_n 1, 1) := by decide +kernel
theorem dX11_emit_16 : decode cX11_emit 16 = .ok (.iastore, 1) := by decide +kernel
theorem dX11_emit_17 : decode cX11_emit 17 = .ok (.aload_n 0, 1) := by decide +kernel
theorem dX11_emit_18 : decode cX11_emit 18 = .ok (.dup, 1) := by decide +kernel
theorem dX11_emit_19 : decode cX11_emit 19 = .ok (.getfield 398, 3) := by decide +kernel
theorem dX11_emit_22 : decode cX11_emit 22 = .ok (.iconst 1, 1) := by decide +kernel
theorem dX11_emit_23 : decode cX11_emit 23 = .ok (.iadd, 1) := by decide +kernel
theorem dX11_emit_24 : decode cX11_emit 24 = .ok (.putfield 398, 3) := by decide +kernel
theorem dX11_emit_27 : decode cX11_emit 27 = .ok (.return_, 1) := by decide +kernel
theorem dX11_enter_0 : decode cX11_enter 0 = .ok (.aload_n 0, 1) := by decide +kernel
theorem dX11_enter_1 : decode cX11_enter 1 = .ok (.aload_n 0, 1) := by decide +kernel
theorem dX11_enter_2 : decode cX11_enter 2 = .ok (.getfield 287, 3) := by decide +kernel
theorem dX11_enter_5 : decode cX11_enter 5 = .ok (.bipush 6, 2) := by decide +kernel
theorem dX11_enter_7 : decode cX11_enter 7 = .ok (.if_icmp .ge 7, 3) := by decide +kernel
theorem dX11_enter_10 : decode cX11_enter 10 = .ok (.iconst 1, 1) := by decide +kernel
theorem dX11_enter_11 : decode cX11_enter 11 = .ok (.goto 4, 3) := by decide +kernel
theorem dX11_enter_14 : decode cX11_enter 14 = .ok (.iconst 0, 1) := by decide +kernel
theorem dX11_enter_15 : decode cX11_enter 15 = .ok (.iconst 3, 1) := by decide +kernel
theorem dX11_enter_16 : decode cX11_enter 16 = .ok (.invokevirtual 310, 3) := by decide +kernel
theorem dX11_enter_19 : decode cX11_enter 19 = .ok (.aload_n 0, 1) := by decide +kernel
theorem dX11_enter_20 : decode cX11_enter 20 = .ok (.dup, 1) := by decide +kernel
theorem dX11_enter_21 : decode cX11_enter 21 = .ok (.getfield 287, 3) := by decide +kernel
theorem dX11_enter_24 : decode cX11_enter 24 = .ok (.iconst 1, 1) := by decide +kernel
theorem dX11_enter_25 : decode cX11_enter 25 = .ok (.iadd, 1) := by decide +kernel
theorem dX11_enter_26 : decode cX11_enter 26 = .ok (.putfield 287, 3) := by decide +kernel
theorem dX11_enter_29 : decode cX11_enter 29 = .ok (.aload_n 0, 1) := by decide +kernel
theorem dX11_enter_30 : decode cX11_enter 30 = .ok (.invokevirtual 314, 3) := by decide +kernel
theorem dX11_enter_33 : decode cX11_enter 33 = .ok (.return_, 1) := by decide +kernel
theorem dX11_compileValue_0 : decode cX11_compileValue 0 = .ok (.aload_n 0, 1) := by decide +kernel
theorem dX11_compileValue_1 : decode cX11_compileValue 1 = .ok (.getfield 284, 3) := by decide +kernel
theorem dX11_compileValue_4 : decode cX11_compileValue 4 = .ok (.ifCond .ne 11, 3) := by decide +kernel
theorem dX11_compileValue_7 : decode cX11_compileValue 7 = .ok (.aload_n 0, 1) := by decide +kernel
theorem dX11_compileValue_8 : decode cX11_compileValue 8 = .ok (.getfield 275, 3) := by decide +kernel
theorem dX11_compileValue_11 : decode cX11_compileValue 11 = .ok (.iconst 2, 1) := by decide +kernel
theorem dX11_compileValue_12 : decode cX11_compileValue 12 = .ok (.if_icmp .ne 16, 3) := by decide +kernel
theorem dX11_compileValue_15 : decode cX11_compileValue 15 = .ok (.aload_n 0, 1) := by decide +kernel
theorem dX11_compileValue_16 : decode cX11_compileValue 16 = .ok (.aload_n 0, 1) := by decide +kernel
theorem dX11_compileValue_17 : decode cX11_compileValue 17 = .ok (.iconst 0, 1) := by decide +kernel
theorem dX11_compileValue_18 : decode cX11_compileValue 18 = .ok (.sipush 9999, 3) := by decide +kernel
theorem dX11_compileValue_21 : decode cX11_compileValue 21 = .ok (.invokevirtual 333, 3) := by decide +kernel
theorem dX11_compileValue_24 : decode cX11_compileValue 24 = .ok (.invokevirtual 401, 3) := by decide +kernel
theorem dX11_compileValue_27 : decode cX11_compileValue 27 = .ok (.return_, 1) := by decide +kernel
theorem dX11_compileValue_28 : decode cX11_compileValue 28 = .ok (.iconst 0, 1) := by decide +kernel
theorem dX11_compileValue_29 : decode cX11_compileValue 29 = .ok (.istore_n 1, 1) := by decide +kernel
theorem dX11_compileValue_30 : decode cX11_compileValue 30 = .ok (.iload_n 1, 1) := by decide +kernel
theorem dX11_compileValue_31 : decode cX11_compileValue 31 = .ok (.aload_n 0, 1) := by decide +kernel
theorem dX11_compileValue_32 : decode cX11_compileValue 32 = .ok (.getfield 62, 3) := by decide +kernel
theorem dX11_compileValue_35 : decode cX11_compileValue 35 = .ok (.arraylength, 1) := by decide +kernel
theorem dX11_compileValue_36 : decode cX11_compileValue 36 = .ok (.if_icmp .ge 22, 3) := by decide +kernel
theorem dX11_compileValue_39 : decode cX11_compileValue 39 = .ok (.aload_n 0, 1) := by decide +kernel
theorem dX11_compileValue_40 : decode cX11_compileValue 40 = .ok (.aload_n 0, 1) := by decide +kernel
theorem dX11_compileValue_41 : decode cX11_compileValue 41 = .ok (.getfield 62, 3) := by decide +kernel
theorem dX11_compileValue_44 : decode cX11_compileValue 44 = .ok (.iload_n 1, 1) := by decide +kernel
theorem dX11_compileValue_45 : decode cX11_compileValue 45 = .ok (.aaload, 1) := by decide +kernel
theorem dX11_compileValue_46 : decode cX11_compileValue 46 = .ok (.invokevirtual 306, 3) := by decide +kernel
theorem dX11_compileValue_49 : decode cX11_compileValue 49 = .ok (.ifCond .ne 9, 3) := by decide +kernel
theorem dX11_compileValue_52 : decode cX11_compileValue 52 = .ok (.iinc 1 1, 3) := by decide +kernel
theorem dX11_compileValue_55 : decode cX11_compileValue 55 = .ok (.goto (-25), 3) := by decide +kernel
theorem dX11_compileValue_58 : decode cX11_compileValue 58 = .ok (.aload_n 0, 1) := by decide +kernel
theorem dX11_compileValue_59 : decode cX11_compileValue 59 = .ok (.iload_n 1, 1) := by decide +kernel
theorem dX11_compileValue_60 : decode cX11_compileValue 60 = .ok (.aload_n 0, 1) := by decide +kernel
theorem dX11_compileValue_61 : decode cX11_compileValue 61 = .ok (.getfield 62, 3) := by decide +kernel
theorem dX11_compileValue_64 : decode cX11_compileValue 64 = .ok (.arraylength, 1) := by decide +kernel
theorem dX11_compileValue_65 : decode cX11_compileValue 65 = .ok (.if_icmp .ge 7, 3) := by decide +kernel
theorem dX11_compileValue_68 : decode cX11_compileValue 68 = .ok (.iconst 1, 1) := by decide +kernel
theorem dX11_compileValue_69 : decode cX11_compileValue 69 = .ok (.goto 4, 3) := by decide +kernel
theorem dX11_compileValue_72 : decode cX11_compileValue 72 = .ok (.iconst 0, 1) := by decide +kernel
theorem dX11_compileValue_73 : decode cX11_compileValue 73 = .ok (.iconst 1, 1) := by decide +kernel
theorem dX11_compileValue_74 : decode cX11_compileValue 74 = .ok (.invokevirtual 310, 3) := by decide +kernel
theorem dX11_compileValue_77 : decode cX11_compileValue 77 = .ok (.aload_n 0, 1) := by decide +kernel
theorem dX11_compileValue_78 : decode cX11_compileValue 78 = .ok (.iconst (-1), 1) := by decide +kernel
theorem dX11_compileValue_79 : decode cX11_compileValue 79 = .ok (.iload_n 1, 1) := by decide +kernel
theorem dX11_compileValue_80 : decode cX11_compileValue 80 = .ok (.isub, 1) := by decide +kernel
theorem dX11_compileValue_81 : decode cX11_compileValue 81 = .ok (.invokevirtual 401, 3) := by decide +kernel
theorem dX11_compileValue_84 : decode cX11_compileValue 84 = .ok (.aload_n 0, 1) := by decide +kernel
theorem dX11_compileValue_85 : decode cX11_compileValue 85 = .ok (.invokevirtual 314, 3) := by decide +kernel
theorem dX11_compileValue_88 : decode cX11_compileValue 88 = .ok (.return_, 1) := by decide +kernel
theorem dX11_compileFactor_0 : decode cX11_compileFactor 0 = .ok (.aload_n 0, 1) := by decide +kernel
theorem dX11_compileFactor_1 : decode cX11_compileFactor 1 = .ok (.ldc_w 404, 3) := by decide +kernel
theorem dX11_compileFactor_4 : decode cX11_compileFactor 4 = .ok (.invokevirtual 306, 3) := by decide +kernel
theorem dX11_compileFactor_7 : decode cX11_compileFactor 7 = .ok (.ifCond .eq 37, 3) := by decide +kernel
theorem dX11_compileFactor_10 : decode cX11_compileFactor 10 = .ok (.aload_n 0, 1) := by decide +kernel
theorem dX11_compileFactor_11 : decode cX11_compileFactor 11 = .ok (.invokevirtual 406, 3) := by decide +kernel
theorem dX11_compileFactor_14 : decode cX11_compileFactor 14 = .ok (.aload_n 0, 1) := by decide +kernel
theorem dX11_compileFactor_15 : decode cX11_compileFactor 15 = .ok (.getfield 284, 3) := by decide +kernel
theorem dX11_compileFactor_18 : decode cX11_compileFactor 18 = .ok (.ifCond .ne 7, 3) := by decide +kernel
theorem dX11_compileFactor_21 : decode cX11_compileFactor 21 = .ok (.aload_n 0, 1) := by decide +kernel
theorem dX11_compileFactor_22 : decode cX11_compileFactor 22 = .ok (.invokevirtual 409, 3) := by decide +kernel
theorem dX11_compileFactor_25 : decode cX11_compileFactor 25 = .ok (.aload_n 0, 1) := by decide +kernel
theorem dX11_compileFactor_26 : decode cX11_compileFactor 26 = .ok (.bipush (-23), 2) := by decide +kernel
theorem dX11_compileFactor_28 : decode cX11_compileFactor 28 = .ok (.invokevirtual 401, 3) := by decide +kernel
theorem dX11_compileFactor_31 : decode cX11_compileFactor 31 = .ok (.aload_n 0, 1) := by decide +kernel
theorem dX11_compileFactor_32 : decode cX11_compileFactor 32 = .ok (.dup, 1) := by decide +kernel
theorem dX11_compileFactor_33 : decode cX11_compileFactor 33 = .ok (.getfield 287, 3) := by decide +kernel
theorem dX11_compileFactor_36 : decode cX11_compileFactor 36 = .ok (.iconst 1, 1) := by decide +kernel
theorem dX11_compileFactor_37 : decode cX11_compileFactor 37 = .ok (.isub, 1) := by decide +kernel
theorem dX11_compileFactor_38 : decode cX11_compileFactor 38 = .ok (.putfield 287, 3) := by decide +kernel
theorem dX11_compileFactor_41 : decode cX11_compileFactor 41 = .ok (.goto 119, 3) := by decide +kernel
theorem dX11_compileFactor_44 : decode cX11_compileFactor 44 = .ok (.aload_n 0, 1) := by decide +kernel
theorem dX11_compileFactor_45 : decode cX11_compileFactor 45 = .ok (.bipush 40, 2) := by decide +kernel
theorem dX11_compileFactor_47 : decode cX11_compileFactor 47 = .ok (.invokevirtual 317, 3) := by decide +kernel
theorem dX11_compileFactor_50 : decode cX11_compileFactor 50 = .ok (.ifCond .eq 37, 3) := by decide +kernel
theorem dX11_compileFactor_53 : decode cX11_compileFactor 53 = .ok (.aload_n 0, 1) := by decide +kernel
theorem dX11_compileFactor_54 : decode cX11_compileFactor 54 = .ok (.invokevirtual 406, 3) := by decide +kernel
theorem dX11_compileFactor_57 : decode cX11_compileFactor 57 = .ok (.aload_n 0, 1) := by decide +kernel
theorem dX11_compileFactor_58 : decode cX11_compileFactor 58 = .ok (.getfield 284, 3) := by decide +kernel
theorem dX11_compileFactor_61 : decode cX11_compileFactor 61 = .ok (.ifCond .ne 7, 3) := by decide +kernel
theorem dX11_compileFactor_64 : decode cX11_compileFactor 64 = .ok (.aload_n 0, 1) := by decide +kernel
theorem dX11_compileFactor_65 : decode cX11_compileFactor 65 = .ok (.invokevirtual 412, 3) := by decide +kernel
theorem dX11_compileFactor_68 : decode cX11_compileFactor 68 = .ok (.aload_n 0, 1) := by decide +kernel
theorem dX11_compileFactor_69 : decode cX11_compileFactor 69 = .ok (.bipush 41, 2) := by decide +kernel
theorem dX11_compileFactor_71 : decode cX11_compileFactor 71 = .ok (.invokevirtual 377, 3) := by decide +kernel
theorem dX11_compileFactor_74 : decode cX11_compileFactor 74 = .ok (.aload_n 0, 1) := by decide +kernel
theorem dX11_compileFactor_75 : decode cX11_compileFactor 75 = .ok (.dup, 1) := by decide +kernel
theorem dX11_compileFactor_76 : decode cX11_compileFactor 76 = .ok (.getfield 287, 3) := by decide +kernel
theorem dX11_compileFactor_79 : decode cX11_compileFactor 79 = .ok (.iconst 1, 1) := by decide +kernel
theorem dX11_compileFactor_80 : decode cX11_compileFactor 80 = .ok (.isub, 1) := by decide +kernel
theorem dX11_compileFactor_81 : decode cX11_compileFactor 81 = .ok (.putfield 287, 3) := by decide +kernel
theorem dX11_compileFactor_84 : decode cX11_compileFactor 84 = .ok (.goto 76, 3) := by decide +kernel
theorem dX11_compileFactor_87 : decode cX11_compileFactor 87 = .ok (.aload_n 0, 1) := by decide +kernel
theorem dX11_compileFactor_88 : decode cX11_compileFactor 88 = .ok (.invokevirtual 415, 3) := by decide +kernel
theorem dX11_compileFactor_91 : decode cX11_compileFactor 91 = .ok (.aload_n 0, 1) := by decide +kernel
theorem dX11_compileFactor_92 : decode cX11_compileFactor 92 = .ok (.bipush 60, 2) := by decide +kernel
theorem dX11_compileFactor_94 : decode cX11_compileFactor 94 = .ok (.invokevirtual 317, 3) := by decide +kernel
theorem dX11_compileFactor_97 : decode cX11_compileFactor 97 = .ok (.ifCond .eq 8, 3) := by decide +kernel
theorem dX11_compileFactor_100 : decode cX11_compileFactor 100 = .ok (.bipush (-20), 2) := by decide +kernel
theorem dX11_compileFactor_102 : decode cX11_compileFactor 102 = .ok (.goto 19, 3) := by decide +kernel
theorem dX11_compileFactor_105 : decode cX11_compileFactor 105 = .ok (.aload_n 0, 1) := by decide +kernel
theorem dX11_compileFactor_106 : decode cX11_compileFactor 106 = .ok (.bipush 61, 2) := by decide +kernel
theorem dX11_compileFactor_108 : decode cX11_compileFactor 108 = .ok (.invokevirtual 317, 3) := by decide +kernel
theorem dX11_compileFactor_111 : decode cX11_compileFactor 111 = .ok (.ifCond .eq 8, 3) := by decide +kernel
theorem dX11_compileFactor_114 : decode cX11_compileFactor 114 = .ok (.bipush (-21), 2) := by decide +kernel
theorem dX11_compileFactor_116 : decode cX11_compileFactor 116 = .ok (.goto 5, 3) := by decide +kernel
theorem dX11_compileFactor_119 : decode cX11_compileFactor 119 = .ok (.bipush (-22), 2) := by decide +kernel
theorem dX11_compileFactor_121 : decode cX11_compileFactor 121 = .ok (.istore_n 1, 1) := by decide +kernel
theorem dX11_compileFactor_122 : decode cX11_compileFactor 122 = .ok (.aload_n 0, 1) := by decide +kernel
theorem dX11_compileFactor_123 : decode cX11_compileFactor 123 = .ok (.iload_n 1, 1) := by decide +kernel
theorem dX11_compileFactor_124 : decode cX11_compileFactor 124 = .ok (.bipush (-22), 2) := by decide +kernel
theorem dX11_compileFactor_126 : decode cX11_compileFactor 126 = .ok (.if_icmp .ne 12, 3) := by decide +kernel
theorem dX11_compileFactor_129 : decode cX11_compileFactor 129 = .ok (.aload_n 0, 1) := by decide +kernel
theorem dX11_compileFactor_130 : decode cX11_compileFactor 130 = .ok (.bipush 62, 2) := by decide +kernel
theorem dX11_compileFactor_132 : decode cX11_compileFactor 132 = .ok (.invokevirtual 317, 3) := by decide +kernel
theorem dX11_compileFactor_135 : decode cX11_compileFactor 135 = .ok (.ifCond .eq 7, 3) := by decide +kernel
theorem dX11_compileFactor_138 : decode cX11_compileFactor 138 = .ok (.iconst 1, 1) := by decide +kernel
theorem dX11_compileFactor_139 : decode cX11_compileFactor 139 = .ok (.goto 4, 3) := by decide +kernel
theorem dX11_compileFactor_142 : decode cX11_compileFactor 142 = .ok (.iconst 0, 1) := by decide +kernel
theorem dX11_compileFactor_143 : decode cX11_compileFactor 143 = .ok (.iconst 1, 1) := by decide +kernel
theorem dX11_compileFactor_144 : decode cX11_compileFactor 144 = .ok (.invokevirtual 310, 3) := by decide +kernel
theorem dX11_compileFactor_147 : decode cX11_compileFactor 147 = .ok (.aload_n 0, 1) := by decide +kernel
theorem dX11_compileFactor_148 : decode cX11_compileFactor 148 = .ok (.invokevirtual 314, 3) := by decide +kernel
theorem dX11_compileFactor_151 : decode cX11_compileFactor 151 = .ok (.aload_n 0, 1) := by decide +kernel
theorem dX11_compileFactor_152 : decode cX11_compileFactor 152 = .ok (.invokevirtual 415, 3) := by decide +kernel
theorem dX11_compileFactor_155 : decode cX11_compileFactor 155 = .ok (.aload_n 0, 1) := by decide +kernel
theorem dX11_compileFactor_156 : decode cX11_compileFactor 156 = .ok (.iload_n 1, 1) := by decide +kernel
theorem dX11_compileFactor_157 : decode cX11_compileFactor 157 = .ok (.invokevirtual 401, 3) := by decide +kernel
theorem dX11_compileFactor_160 : decode cX11_compileFactor 160 = .ok (.return_, 1) := by decide +kernel
theorem dX11_compileConjunction_0 : decode cX11_compileConjunction 0 = .ok (.aload_n 0, 1) := by decide +kernel
theorem dX11_compileConjunction_1 : decode cX11_compileConjunction 1 = .ok (.invokevirtual 409, 3) := by decide +kernel
theorem dX11_compileConjunction_4 : decode cX11_compileConjunction 4 = .ok (.aload_n 0, 1) := by decide +kernel
theorem dX11_compileConjunction_5 : decode cX11_compileConjunction 5 = .ok (.ldc_w 418, 3) := by decide +kernel
theorem dX11_compileConjunction_8 : decode cX11_compileConjunction 8 = .ok (.invokevirtual 351, 3) := by decide +kernel
theorem dX11_compileConjunction_11 : decode cX11_compileConjunction 11 = .ok (.ifCond .eq 16, 3) := by decide +kernel
theorem dX11_compileConjunction_14 : decode cX11_compileConjunction 14 = .ok (.aload_n 0, 1) := by decide +kernel
theorem dX11_compileConjunction_15 : decode cX11_compileConjunction 15 = .ok (.invokevirtual 409, 3) := by decide +kernel
theorem dX11_compileConjunction_18 : decode cX11_compileConjunction 18 = .ok (.aload_n 0, 1) := by decide +kernel
theorem dX11_compileConjunction_19 : decode cX11_compileConjunction 19 = .ok (.bipush (-24), 2) := by decide +kernel
theorem dX11_compileConjunction_21 : decode cX11_compileConjunction 21 = .ok (.invokevirtual 401, 3) := by decide +kernel
theorem dX11_compileConjunction_24 : decode cX11_compileConjunction 24 = .ok (.goto (-20), 3) := by decide +kernel
theorem dX11_compileConjunction_27 : decode cX11_compileConjunction 27 = .ok (.return_, 1) := by decide +kernel
theorem dX11_compileTest_0 : decode cX11_compileTest 0 = .ok (.aload_n 0, 1) := by decide +kernel
theorem dX11_compileTest_1 : decode cX11_compileTest 1 = .ok (.invokevirtual 420, 3) := by decide +kernel
theorem dX11_compileTest_4 : decode cX11_compileTest 4 = .ok (.aload_n 0, 1) := by decide +kernel
theorem dX11_compileTest_5 : decode cX11_compileTest 5 = .ok (.ldc_w 423, 3) := by decide +kernel
theorem dX11_compileTest_8 : decode cX11_compileTest 8 = .ok (.invokevirtual 351, 3) := by decide +kernel
theorem dX11_compileTest_11 : decode cX11_compileTest 11 = .ok (.ifCond .eq 16, 3) := by decide +kernel
theorem dX11_compileTest_14 : decode cX11_compileTest 14 = .ok (.aload_n 0, 1) := by decide +kernel
theorem dX11_compileTest_15 : decode cX11_compileTest 15 = .ok (.invokevirtual 420, 3) := by decide +kernel
theorem dX11_compileTest_18 : decode cX11_compileTest 18 = .ok (.aload_n 0, 1) := by decide +kernel
theorem dX11_compileTest_19 : decode cX11_compileTest 19 = .ok (.bipush (-25), 2) := by decide +kernel
theorem dX11_compileTest_21 : decode cX11_compileTest 21 = .ok (.invokevirtual 401, 3) := by decide +kernel
theorem dX11_compileTest_24 : decode cX11_compileTest 24 = .ok (.goto (-20), 3) := by decide +kernel
theorem dX11_compileTest_27 : decode cX11_compileTest 27 = .ok (.return_, 1) := by decide +kernel
theorem dX11_operate_0 : decode cX11_operate 0 = .ok (.iload_n 0, 1) := by decide +kernel
theorem dX11_operate_1 : decode cX11_operate 1 = .ok (.tableswitch 75 (-24) (-20) #[71, 75, 59, 47, 35], 35) := by decide +kernel
theorem dX11_operate_36 : decode cX11_operate 36 = .ok (.lload_n 1, 1) := by decide +kernel
theorem dX11_operate_37 : decode cX11_operate 37 = .ok (.lload_n 3, 1) := by decide +kernel
theorem dX11_operate_38 : decode cX11_operate 38 = .ok (.lcmp, 1) := by decide +kernel
theorem dX11_operate_39 : decode cX11_operate 39 = .ok (.ifCond .ge 7, 3) := by decide +kernel
theorem dX11_operate_42 : decode cX11_operate 42 = .ok (.lconst 1, 1) := by decide +kernel
theorem dX11_operate_43 : decode cX11_operate 43 = .ok (.goto 4, 3) := by decide +kernel
theorem dX11_operate_46 : decode cX11_operate 46 = .ok (.lconst 0, 1) := by decide +kernel
theorem dX11_operate_47 : decode cX11_operate 47 = .ok (.lreturn, 1) := by decide +kernel
theorem dX11_operate_48 : decode cX11_operate 48 = .ok (.lload_n 1, 1) := by decide +kernel
theorem dX11_operate_49 : decode cX11_operate 49 = .ok (.lload_n 3, 1) := by decide +kernel
theorem dX11_operate_50 : decode cX11_operate 50 = .ok (.lcmp, 1) := by decide +kernel
theorem dX11_operate_51 : decode cX11_operate 51 = .ok (.ifCond .ne 7, 3) := by decide +kernel
theorem dX11_operate_54 : decode cX11_operate 54 = .ok (.lconst 1, 1) := by decide +kernel
theorem dX11_operate_55 : decode cX11_operate 55 = .ok (.goto 4, 3) := by decide +kernel
theorem dX11_operate_58 : decode cX11_operate 58 = .ok (.lconst 0, 1) := by decide +kernel
theorem dX11_operate_59 : decode cX11_operate 59 = .ok (.lreturn, 1) := by decide +kernel
theorem dX11_operate_60 : decode cX11_operate 60 = .ok (.lload_n 1, 1) := by decide +kernel
theorem dX11_operate_61 : decode cX11_operate 61 = .ok (.lload_n 3, 1) := by decide +kernel
theorem dX11_operate_62 : decode cX11_operate 62 = .ok (.lcmp, 1) := by decide +kernel
theorem dX11_operate_63 : decode cX11_operate 63 = .ok (.ifCond .le 7, 3) := by decide +kernel
theorem dX11_operate_66 : decode cX11_operate 66 = .ok (.lconst 1, 1) := by decide +kernel
theorem dX11_operate_67 : decode cX11_operate 67 = .ok (.goto 4, 3) := by decide +kernel
theorem dX11_operate_70 : decode cX11_operate 70 = .ok (.lconst 0, 1) := by decide +kernel
theorem dX11_operate_71 : decode cX11_operate 71 = .ok (.lreturn, 1) := by decide +kernel
theorem dX11_operate_72 : decode cX11_operate 72 = .ok (.lload_n 1, 1) := by decide +kernel
theorem dX11_operate_73 : decode cX11_operate 73 = .ok (.lload_n 3, 1) := by decide +kernel
theorem dX11_operate_74 : decode cX11_operate 74 = .ok (.land, 1) := by decide +kernel
theorem dX11_operate_75 : decode cX11_operate 75 = .ok (.lreturn, 1) := by decide +kernel
theorem dX11_operate_76 : decode cX11_operate 76 = .ok (.lload_n 1, 1) := by decide +kernel
theorem dX11_operate_77 : decode cX11_operate 77 = .ok (.lload_n 3, 1) := by decide +kernel
theorem dX11_operate_78 : decode cX11_operate 78 = .ok (.lor, 1) := by decide +kernel
theorem dX11_operate_79 : decode cX11_operate 79 = .ok (.lreturn, 1) := by decide +kernel
theorem dX11_property_0 : decode cX11_property 0 = .ok (.iload_n 2, 1) := by decide +kernel
theorem dX11_property_1 : decode cX11_property 1 = .ok (.tableswitch 93 0 6 #[43, 45, 52, 59, 66, 75, 85], 43) := by decide +kernel
theorem dX11_property_44 : decode cX11_property 44 = .ok (.iload_n 1, 1) := by decide +kernel
theorem dX11_property_45 : decode cX11_property 45 = .ok (.ireturn, 1) := by decide +kernel
theorem dX11_property_46 : decode cX11_property 46 = .ok (.aload_n 0, 1) := by decide +kernel
theorem dX11_property_47 : decode cX11_property 47 = .ok (.iload_n 1, 1) := by decide +kernel
theorem dX11_property_48 : decode cX11_property 48 = .ok (.iconst 0, 1) := by decide +kernel
theorem dX11_property_49 : decode cX11_property 49 = .ok (.invokevirtual 130, 3) := by decide +kernel
theorem dX11_property_52 : decode cX11_property 52 = .ok (.ireturn, 1) := by decide +kernel
theorem dX11_property_53 : decode cX11_property 53 = .ok (.aload_n 0, 1) := by decide +kernel
theorem dX11_property_54 : decode cX11_property 54 = .ok (.iload_n 1, 1) := by decide +kernel
theorem dX11_property_55 : decode cX11_property 55 = .ok (.iconst 3, 1) := by decide +kernel
theorem dX11_property_56 : decode cX11_property 56 = .ok (.invokevirtual 130, 3) := by decide +kernel
theorem dX11_property_59 : decode cX11_property 59 = .ok (.ireturn, 1) := by decide +kernel
theorem dX11_property_60 : decode cX11_property 60 = .ok (.aload_n 0, 1) := by decide +kernel
theorem dX11_property_61 : decode cX11_property 61 = .ok (.iload_n 1, 1) := by decide +kernel
theorem dX11_property_62 : decode cX11_property 62 = .ok (.iconst 4, 1) := by decide +kernel
theorem dX11_property_63 : decode cX11_property 63 = .ok (.invokevirtual 130, 3) := by decide +kernel
theorem dX11_property_66 : decode cX11_property 66 = .ok (.ireturn, 1) := by decide +kernel
theorem dX11_property_67 : decode cX11_property 67 = .ok (.iconst 1, 1) := by decide +kernel
theorem dX11_property_68 : decode cX11_property 68 = .ok (.aload_n 0, 1) := by decide +kernel
theorem dX11_property_69 : decode cX11_property 69 = .ok (.iload_n 1, 1) := by decide +kernel
theorem dX11_property_70 : decode cX11_property 70 = .ok (.iconst 5, 1) := by decide +kernel
theorem dX11_property_71 : decode cX11_property 71 = .ok (.invokevirtual 130, 3) := by decide +kernel
theorem dX11_property_74 : decode cX11_property 74 = .ok (.iadd, 1) := by decide +kernel
theorem dX11_property_75 : decode cX11_property 75 = .ok (.ireturn, 1) := by decide +kernel
theorem dX11_property_76 : decode cX11_property 76 = .ok (.iconst 1, 1) := by decide +kernel
theorem dX11_property_77 : decode cX11_property 77 = .ok (.aload_n 0, 1) := by decide +kernel
theorem dX11_property_78 : decode cX11_property 78 = .ok (.iload_n 1, 1) := by decide +kernel
theorem dX11_property_79 : decode cX11_property 79 = .ok (.bipush 6, 2) := by decide +kernel
theorem dX11_property_81 : decode cX11_property 81 = .ok (.invokevirtual 130, 3) := by decide +kernel
theorem dX11_property_84 : decode cX11_property 84 = .ok (.iadd, 1) := by decide +kernel
theorem dX11_property_85 : decode cX11_property 85 = .ok (.ireturn, 1) := by decide +kernel
theorem dX11_property_86 : decode cX11_property 86 = .ok (.aload_n 0, 1) := by decide +kernel
theorem dX11_property_87 : decode cX11_property 87 = .ok (.iload_n 1, 1) := by decide +kernel
theorem dX11_property_88 : decode cX11_property 88 = .ok (.bipush 9, 2) := by decide +kernel
theorem dX11_property_90 : decode cX11_property 90 = .ok (.invokevirtual 130, 3) := by decide +kernel
theorem dX11_property_93 : decode cX11_property 93 = .ok (.ireturn, 1) := by decide +kernel
theorem dX11_property_94 : decode cX11_property 94 = .ok (.aload_n 0, 1) := by decide +kernel
theorem dX11_property_95 : decode cX11_property 95 = .ok (.iload_n 1, 1) := by decide +kernel
theorem dX11_property_96 : decode cX11_property 96 = .ok (.iload_n 2, 1) := by decide +kernel
theorem dX11_property_97 : decode cX11_property 97 = .ok (.bipush 7, 2) := by decide +kernel
theorem dX11_property_99 : decode cX11_property 99 = .ok (.if_icmp .ne 7, 3) := by decide +kernel
theorem dX11_property_102 : decode cX11_property 102 = .ok (.iconst 1, 1) := by decide +kernel
theorem dX11_property_103 : decode cX11_property 103 = .ok (.goto 4, 3) := by decide +kernel
theorem dX11_property_106 : decode cX11_property 106 = .ok (.iconst 2, 1) := by decide +kernel
theorem dX11_property_107 : decode cX11_property 107 = .ok (.invokevirtual 130, 3) := by decide +kernel
theorem dX11_property_110 : decode cX11_property 110 = .ok (.ireturn, 1) := by decide +kernel
theorem dX11_holdsFor_0 : decode cX11_holdsFor 0 = .ok (.iconst 0, 1) := by decide +kernel
theorem dX11_holdsFor_1 : decode cX11_holdsFor 1 = .ok (.istore_n 2, 1) := by decide +kernel
theorem dX11_holdsFor_2 : decode cX11_holdsFor 2 = .ok (.iconst 0, 1) := by decide +kernel
theorem dX11_holdsFor_3 : decode cX11_holdsFor 3 = .ok (.istore_n 3, 1) := by decide +kernel
theorem dX11_holdsFor_4 : decode cX11_holdsFor 4 = .ok (.iload_n 3, 1) := by decide +kernel
theorem dX11_holdsFor_5 : decode cX11_holdsFor 5 = .ok (.aload_n 0, 1) := by decide +kernel
theorem dX11_holdsFor_6 : decode cX11_holdsFor 6 = .ok (.getfield 398, 3) := by decide +kernel
theorem dX11_holdsFor_9 : decode cX11_holdsFor 9 = .ok (.if_icmp .ge 115, 3) := by decide +kernel
theorem dX11_holdsFor_12 : decode cX11_holdsFor 12 = .ok (.aload_n 0, 1) := by decide +kernel
theorem dX11_holdsFor_13 : decode cX11_holdsFor 13 = .ok (.getfield 66, 3) := by decide +kernel
theorem dX11_holdsFor_16 : decode cX11_holdsFor 16 = .ok (.iload_n 3, 1) := by decide +kernel
theorem dX11_holdsFor_17 : decode cX11_holdsFor 17 = .ok (.iaload, 1) := by decide +kernel
theorem dX11_holdsFor_18 : decode cX11_holdsFor 18 = .ok (.istore 4, 2) := by decide +kernel
theorem dX11_holdsFor_20 : decode cX11_holdsFor 20 = .ok (.iload 4, 2) := by decide +kernel
theorem dX11_holdsFor_22 : decode cX11_holdsFor 22 = .ok (.bipush (-23), 2) := by decide +kernel
theorem dX11_holdsFor_24 : decode cX11_holdsFor 24 = .ok (.if_icmp .ne 24, 3) := by decide +kernel
theorem dX11_holdsFor_27 : decode cX11_holdsFor 27 = .ok (.aload_n 0, 1) := by decide +kernel
theorem dX11_holdsFor_28 : decode cX11_holdsFor 28 = .ok (.getfield 69, 3) := by decide +kernel
theorem dX11_holdsFor_31 : decode cX11_holdsFor 31 = .ok (.iload_n 2, 1) := by decide +kernel
theorem dX11_holdsFor_32 : decode cX11_holdsFor 32 = .ok (.iconst 1, 1) := by decide +kernel
theorem dX11_holdsFor_33 : decode cX11_holdsFor 33 = .ok (.isub, 1) := by decide +kernel
theorem dX11_holdsFor_34 : decode cX11_holdsFor 34 = .ok (.lconst 1, 1) := by decide +kernel
theorem dX11_holdsFor_35 : decode cX11_holdsFor 35 = .ok (.aload_n 0, 1) := by decide +kernel
theorem dX11_holdsFor_36 : decode cX11_holdsFor 36 = .ok (.getfield 69, 3) := by decide +kernel
theorem dX11_holdsFor_39 : decode cX11_holdsFor 39 = .ok (.iload_n 2, 1) := by decide +kernel
theorem dX11_holdsFor_40 : decode cX11_holdsFor 40 = .ok (.iconst 1, 1) := by decide +kernel
theorem dX11_holdsFor_41 : decode cX11_holdsFor 41 = .ok (.isub, 1) := by decide +kernel
theorem dX11_holdsFor_42 : decode cX11_holdsFor 42 = .ok (.laload, 1) := by decide +kernel
theorem dX11_holdsFor_43 : decode cX11_holdsFor 43 = .ok (.lsub, 1) := by decide +kernel
theorem dX11_holdsFor_44 : decode cX11_holdsFor 44 = .ok (.lastore, 1) := by decide +kernel
theorem dX11_holdsFor_45 : decode cX11_holdsFor 45 = .ok (.goto 73, 3) := by decide +kernel
theorem dX11_holdsFor_48 : decode cX11_holdsFor 48 = .ok (.iload 4, 2) := by decide +kernel
theorem dX11_holdsFor_50 : decode cX11_holdsFor 50 = .ok (.bipush (-20), 2) := by decide +kernel
theorem dX11_holdsFor_52 : decode cX11_holdsFor 52 = .ok (.if_icmp .le 36, 3) := by decide +kernel
theorem dX11_holdsFor_55 : decode cX11_holdsFor 55 = .ok (.aload_n 0, 1) := by decide +kernel
theorem dX11_holdsFor_56 : decode cX11_holdsFor 56 = .ok (.getfield 69, 3) := by decide +kernel
theorem dX11_holdsFor_59 : decode cX11_holdsFor 59 = .ok (.iload_n 2, 1) := by decide +kernel
theorem dX11_holdsFor_60 : decode cX11_holdsFor 60 = .ok (.iload 4, 2) := by decide +kernel
theorem dX11_holdsFor_62 : decode cX11_holdsFor 62 = .ok (.ifCond .lt 9, 3) := by decide +kernel
theorem dX11_holdsFor_65 : decode cX11_holdsFor 65 = .ok (.iload 4, 2) := by decide +kernel
theorem dX11_holdsFor_67 : decode cX11_holdsFor 67 = .ok (.i2l, 1) := by decide +kernel
theorem dX11_holdsFor_68 : decode cX11_holdsFor 68 = .ok (.goto 13, 3) := by decide +kernel
theorem dX11_holdsFor_71 : decode cX11_holdsFor 71 = .ok (.aload_n 0, 1) := by decide +kernel
theorem dX11_holdsFor_72 : decode cX11_holdsFor 72 = .ok (.iload_n 1, 1) := by decide +kernel
theorem dX11_holdsFor_73 : decode cX11_holdsFor 73 = .ok (.iconst (-1), 1) := by decide +kernel
theorem dX11_holdsFor_74 : decode cX11_holdsFor 74 = .ok (.iload 4, 2) := by decide +kernel
theorem dX11_holdsFor_76 : decode cX11_holdsFor 76 = .ok (.isub, 1) := by decide +kernel
theorem dX11_holdsFor_77 : decode cX11_holdsFor 77 = .ok (.invokevirtual 425, 3) := by decide +kernel
theorem dX11_holdsFor_80 : decode cX11_holdsFor 80 = .ok (.i2l, 1) := by decide +kernel
theorem dX11_holdsFor_81 : decode cX11_holdsFor 81 = .ok (.lastore, 1) := by decide +kernel
theorem dX11_holdsFor_82 : decode cX11_holdsFor 82 = .ok (.iinc 2 1, 3) := by decide +kernel
theorem dX11_holdsFor_85 : decode cX11_holdsFor 85 = .ok (.goto 33, 3) := by decide +kernel
theorem dX11_holdsFor_88 : decode cX11_holdsFor 88 = .ok (.iinc 2 (-1), 3) := by decide +kernel
theorem dX11_holdsFor_91 : decode cX11_holdsFor 91 = .ok (.aload_n 0, 1) := by decide +kernel
theorem dX11_holdsFor_92 : decode cX11_holdsFor 92 = .ok (.getfield 69, 3) := by decide +kernel
theorem dX11_holdsFor_95 : decode cX11_holdsFor 95 = .ok (.iload_n 2, 1) := by decide +kernel
theorem dX11_holdsFor_96 : decode cX11_holdsFor 96 = .ok (.iconst 1, 1) := by decide +kernel
theorem dX11_holdsFor_97 : decode cX11_holdsFor 97 = .ok (.isub, 1) := by decide +kernel
theorem dX11_holdsFor_98 : decode cX11_holdsFor 98 = .ok (.iload 4, 2) := by decide +kernel
theorem dX11_holdsFor_100 : decode cX11_holdsFor 100 = .ok (.aload_n 0, 1) := by decide +kernel
theorem dX11_holdsFor_101 : decode cX11_holdsFor 101 = .ok (.getfield 69, 3) := by decide +kernel
theorem dX11_holdsFor_104 : decode cX11_holdsFor 104 = .ok (.iload_n 2, 1) := by decide +kernel
theorem dX11_holdsFor_105 : decode cX11_holdsFor 105 = .ok (.iconst 1, 1) := by decide +kernel
theorem dX11_holdsFor_106 : decode cX11_holdsFor 106 = .ok (.isub, 1) := by decide +kernel
theorem dX11_holdsFor_107 : decode cX11_holdsFor 107 = .ok (.laload, 1) := by decide +kernel
theorem dX11_holdsFor_108 : decode cX11_holdsFor 108 = .ok (.aload_n 0, 1) := by decide +kernel
theorem dX11_holdsFor_109 : decode cX11_holdsFor 109 = .ok (.getfield 69, 3) := by decide +kernel
theorem dX11_holdsFor_112 : decode cX11_holdsFor 112 = .ok (.iload_n 2, 1) := by decide +kernel
theorem dX11_holdsFor_113 : decode cX11_holdsFor 113 = .ok (.laload, 1) := by decide +kernel
theorem dX11_holdsFor_114 : decode cX11_holdsFor 114 = .ok (.invokestatic 428, 3) := by decide +kernel
theorem dX11_holdsFor_117 : decode cX11_holdsFor 117 = .ok (.lastore, 1) := by decide +kernel
theorem dX11_holdsFor_118 : decode cX11_holdsFor 118 = .ok (.iinc 3 1, 3) := by decide +kernel
theorem dX11_holdsFor_121 : decode cX11_holdsFor 121 = .ok (.goto (-117), 3) := by decide +kernel
theorem dX11_holdsFor_124 : decode cX11_holdsFor 124 = .ok (.aload_n 0, 1) := by decide +kernel
theorem dX11_holdsFor_125 : decode cX11_holdsFor 125 = .ok (.getfield 69, 3) := by decide +kernel
theorem dX11_holdsFor_128 : decode cX11_holdsFor 128 = .ok (.iconst 0, 1) := by decide +kernel
theorem dX11_holdsFor_129 : decode cX11_holdsFor 129 = .ok (.laload, 1) := by decide +kernel
theorem dX11_holdsFor_130 : decode cX11_holdsFor 130 = .ok (.lconst 1, 1) := by decide +kernel
theorem dX11_holdsFor_131 : decode cX11_holdsFor 131 = .ok (.lcmp, 1) := by decide +kernel
theorem dX11_holdsFor_132 : decode cX11_holdsFor 132 = .ok (.ifCond .ne 7, 3) := by decide +kernel
theorem dX11_holdsFor_135 : decode cX11_holdsFor 135 = .ok (.iconst 1, 1) := by decide +kernel
theorem dX11_holdsFor_136 : decode cX11_holdsFor 136 = .ok (.goto 4, 3) := by decide +kernel
theorem dX11_holdsFor_139 : decode cX11_holdsFor 139 = .ok (.iconst 0, 1) := by decide +kernel
theorem dX11_holdsFor_140 : decode cX11_holdsFor 140 = .ok (.ireturn, 1) := by decide +kernel
theorem dX11_query_0 : decode cX11_query 0 = .ok (.aload_n 0, 1) := by decide +kernel
theorem dX11_query_1 : decode cX11_query 1 = .ok (.iconst 0, 1) := by decide +kernel
theorem dX11_query_2 : decode cX11_query 2 = .ok (.putfield 77, 3) := by decide +kernel
theorem dX11_query_5 : decode cX11_query 5 = .ok (.iload_n 1, 1) := by decide +kernel
theorem dX11_query_6 : decode cX11_query 6 = .ok (.iconst 0, 1) := by decide +kernel
theorem dX11_query_7 : decode cX11_query 7 = .ok (.aload_n 0, 1) := by decide +kernel
theorem dX11_query_8 : decode cX11_query 8 = .ok (.getfield 260, 3) := by decide +kernel
theorem dX11_query_11 : decode cX11_query 11 = .ok (.sipush 200, 3) := by decide +kernel
theorem dX11_query_14 : decode cX11_query 14 = .ok (.invokestatic 432, 3) := by decide +kernel
theorem dX11_query_17 : decode cX11_query 17 = .ok (.invokestatic 90, 3) := by decide +kernel
theorem dX11_query_20 : decode cX11_query 20 = .ok (.ifCond .ne 9, 3) := by decide +kernel
theorem dX11_query_23 : decode cX11_query 23 = .ok (.aload_n 0, 1) := by decide +kernel
theorem dX11_query_24 : decode cX11_query 24 = .ok (.iconst 1, 1) := by decide +kernel
theorem dX11_query_25 : decode cX11_query 25 = .ok (.invokevirtual 192, 3) := by decide +kernel
theorem dX11_query_28 : decode cX11_query 28 = .ok (.ireturn, 1) := by decide +kernel
theorem dX11_query_29 : decode cX11_query 29 = .ok (.aload_n 0, 1) := by decide +kernel
theorem dX11_query_30 : decode cX11_query 30 = .ok (.iconst 0, 1) := by decide +kernel
theorem dX11_query_31 : decode cX11_query 31 = .ok (.putfield 398, 3) := by decide +kernel
theorem dX11_query_34 : decode cX11_query 34 = .ok (.aload_n 0, 1) := by decide +kernel
theorem dX11_query_35 : decode cX11_query 35 = .ok (.iload_n 1, 1) := by decide +kernel
theorem dX11_query_36 : decode cX11_query 36 = .ok (.invokevirtual 389, 3) := by decide +kernel
theorem dX11_query_39 : decode cX11_query 39 = .ok (.aload_n 0, 1) := by decide +kernel
theorem dX11_query_40 : decode cX11_query 40 = .ok (.ldc_w 434, 3) := by decide +kernel
theorem dX11_query_43 : decode cX11_query 43 = .ok (.invokevirtual 306, 3) := by decide +kernel
theorem dX11_query_46 : decode cX11_query 46 = .ok (.istore_n 2, 1) := by decide +kernel
theorem dX11_query_47 : decode cX11_query 47 = .ok (.aload_n 0, 1) := by decide +kernel
theorem dX11_query_48 : decode cX11_query 48 = .ok (.iload_n 2, 1) := by decide +kernel
theorem dX11_query_49 : decode cX11_query 49 = .ok (.ifCond .ne 13, 3) := by decide +kernel
theorem dX11_query_52 : decode cX11_query 52 = .ok (.aload_n 0, 1) := by decide +kernel
theorem dX11_query_53 : decode cX11_query 53 = .ok (.ldc_w 436, 3) := by decide +kernel
theorem dX11_query_56 : decode cX11_query 56 = .ok (.invokevirtual 306, 3) := by decide +kernel
theorem dX11_query_59 : decode cX11_query 59 = .ok (.ifCond .eq 7, 3) := by decide +kernel
theorem dX11_query_62 : decode cX11_query 62 = .ok (.iconst 1, 1) := by decide +kernel
theorem dX11_query_63 : decode cX11_query 63 = .ok (.goto 4, 3) := by decide +kernel
theorem dX11_query_66 : decode cX11_query 66 = .ok (.iconst 0, 1) := by decide +kernel
theorem dX11_query_67 : decode cX11_query 67 = .ok (.iconst 1, 1) := by decide +kernel
theorem dX11_query_68 : decode cX11_query 68 = .ok (.invokevirtual 310, 3) := by decide +kernel
theorem dX11_query_71 : decode cX11_query 71 = .ok (.aload_n 0, 1) := by decide +kernel
theorem dX11_query_72 : decode cX11_query 72 = .ok (.invokevirtual 314, 3) := by decide +kernel
theorem dX11_query_75 : decode cX11_query 75 = .ok (.aload_n 0, 1) := by decide +kernel
theorem dX11_query_76 : decode cX11_query 76 = .ok (.invokevirtual 412, 3) := by decide +kernel
theorem dX11_query_79 : decode cX11_query 79 = .ok (.aload_n 0, 1) := by decide +kernel
theorem dX11_query_80 : decode cX11_query 80 = .ok (.aload_n 0, 1) := by decide +kernel
theorem dX11_query_81 : decode cX11_query 81 = .ok (.getfield 284, 3) := by decide +kernel
theorem dX11_query_84 : decode cX11_query 84 = .ok (.ifCond .ne 10, 3) := by decide +kernel
theorem dX11_query_87 : decode cX11_query 87 = .ok (.aload_n 0, 1) := by decide +kernel
theorem dX11_query_88 : decode cX11_query 88 = .ok (.getfield 275, 3) := by decide +kernel
theorem dX11_query_91 : decode cX11_query 91 = .ok (.ifCond .ne 7, 3) := by decide +kernel
theorem dX11_query_94 : decode cX11_query 94 = .ok (.iconst 1, 1) := by decide +kernel
theorem dX11_query_95 : decode cX11_query 95 = .ok (.goto 4, 3) := by decide +kernel
theorem dX11_query_98 : decode cX11_query 98 = .ok (.iconst 0, 1) := by decide +kernel
theorem dX11_query_99 : decode cX11_query 99 = .ok (.iconst 1, 1) := by decide +kernel
theorem dX11_query_100 : decode cX11_query 100 = .ok (.invokevirtual 310, 3) := by decide +kernel
theorem dX11_query_103 : decode cX11_query 103 = .ok (.aload_n 0, 1) := by decide +kernel
theorem dX11_query_104 : decode cX11_query 104 = .ok (.invokevirtual 395, 3) := by decide +kernel
theorem dX11_query_107 : decode cX11_query 107 = .ok (.ifCond .eq 12, 3) := by decide +kernel
theorem dX11_query_110 : decode cX11_query 110 = .ok (.ldc_w 438, 3) := by decide +kernel
theorem dX11_query_113 : decode cX11_query 113 = .ok (.aload_n 0, 1) := by decide +kernel
theorem dX11_query_114 : decode cX11_query 114 = .ok (.getfield 284, 3) := by decide +kernel
theorem dX11_query_117 : decode cX11_query 117 = .ok (.isub, 1) := by decide +kernel
theorem dX11_query_118 : decode cX11_query 118 = .ok (.ireturn, 1) := by decide +kernel
theorem dX11_query_119 : decode cX11_query 119 = .ok (.iconst 0, 1) := by decide +kernel
theorem dX11_query_120 : decode cX11_query 120 = .ok (.istore_n 3, 1) := by decide +kernel
theorem dX11_query_121 : decode cX11_query 121 = .ok (.iconst 0, 1) := by decide +kernel
theorem dX11_query_122 : decode cX11_query 122 = .ok (.istore 4, 2) := by decide +kernel
theorem dX11_query_124 : decode cX11_query 124 = .ok (.iload 4, 2) := by decide +kernel
theorem dX11_query_126 : decode cX11_query 126 = .ok (.aload_n 0, 1) := by decide +kernel
theorem dX11_query_127 : decode cX11_query 127 = .ok (.getfield 9, 3) := by decide +kernel
theorem dX11_query_130 : decode cX11_query 130 = .ok (.iconst 4, 1) := by decide +kernel
theorem dX11_query_131 : decode cX11_query 131 = .ok (.iaload, 1) := by decide +kernel
theorem dX11_query_132 : decode cX11_query 132 = .ok (.if_icmp .ge 31, 3) := by decide +kernel
theorem dX11_query_135 : decode cX11_query 135 = .ok (.aload_n 0, 1) := by decide +kernel
theorem dX11_query_136 : decode cX11_query 136 = .ok (.iload 4, 2) := by decide +kernel
theorem dX11_query_138 : decode cX11_query 138 = .ok (.invokevirtual 439, 3) := by decide +kernel
theorem dX11_query_141 : decode cX11_query 141 = .ok (.ifCond .ne 6, 3) := by decide +kernel
theorem dX11_query_144 : decode cX11_query 144 = .ok (.goto 13, 3) := by decide +kernel
theorem dX11_query_147 : decode cX11_query 147 = .ok (.iload_n 2, 1) := by decide +kernel
theorem dX11_query_148 : decode cX11_query 148 = .ok (.ifCond .eq 6, 3) := by decide +kernel
theorem dX11_query_151 : decode cX11_query 151 = .ok (.iload 4, 2) := by decide +kernel
theorem dX11_query_153 : decode cX11_query 153 = .ok (.ireturn, 1) := by decide +kernel
theorem dX11_query_154 : decode cX11_query 154 = .ok (.iinc 3 1, 3) := by decide +kernel
theorem dX11_query_157 : decode cX11_query 157 = .ok (.iinc 4 1, 3) := by decide +kernel
theorem dX11_query_160 : decode cX11_query 160 = .ok (.goto (-36), 3) := by decide +kernel
theorem dX11_query_163 : decode cX11_query 163 = .ok (.iload_n 2, 1) := by decide +kernel
theorem dX11_query_164 : decode cX11_query 164 = .ok (.ifCond .eq 7, 3) := by decide +kernel
theorem dX11_query_167 : decode cX11_query 167 = .ok (.iconst (-1), 1) := by decide +kernel
theorem dX11_query_168 : decode cX11_query 168 = .ok (.goto 4, 3) := by decide +kernel
theorem dX11_query_171 : decode cX11_query 171 = .ok (.iload_n 3, 1) := by decide +kernel
theorem dX11_query_172 : decode cX11_query 172 = .ok (.ireturn, 1) := by decide +kernel
theorem dL_load_0 : decode cL_load 0 = .ok (.aload_n 2, 1) := by decide +kernel
theorem dL_load_1 : decode cL_load 1 = .ok (.iconst 0, 1) := by decide +kernel
theorem dL_load_2 : decode cL_load 2 = .ok (.aload_n 0, 1) := by decide +kernel
theorem dL_load_3 : decode cL_load 3 = .ok (.iload_n 1, 1) := by decide +kernel
theorem dL_load_4 : decode cL_load 4 = .ok (.invokevirtual 7, 3) := by decide +kernel
theorem dL_load_7 : decode cL_load 7 = .ok (.i2l, 1) := by decide +kernel
theorem dL_load_8 : decode cL_load 8 = .ok (.lastore, 1) := by decide +kernel
theorem dL_load_9 : decode cL_load 9 = .ok (.goto 6, 3) := by decide +kernel
theorem dL_load_12 : decode cL_load 12 = .ok (.astore_n 3, 1) := by decide +kernel
theorem dL_load_13 : decode cL_load 13 = .ok (.iconst 1, 1) := by decide +kernel
theorem dL_load_14 : decode cL_load 14 = .ok (.ireturn, 1) := by decide +kernel
theorem dL_load_15 : decode cL_load 15 = .ok (.iconst 0, 1) := by decide +kernel
theorem dL_load_16 : decode cL_load 16 = .ok (.ireturn, 1) := by decide +kernel
theorem dL_size_0 : decode cL_size 0 = .ok (.aload_n 2, 1) := by decide +kernel
theorem dL_size_1 : decode cL_size 1 = .ok (.iconst 0, 1) := by decide +kernel
theorem dL_size_2 : decode cL_size 2 = .ok (.aload_n 0, 1) := by decide +kernel
theorem dL_size_3 : decode cL_size 3 = .ok (.iload_n 1, 1) := by decide +kernel
theorem dL_size_4 : decode cL_size 4 = .ok (.invokevirtual 15, 3) := by decide +kernel
theorem dL_size_7 : decode cL_size 7 = .ok (.i2l, 1) := by decide +kernel
theorem dL_size_8 : decode cL_size 8 = .ok (.lastore, 1) := by decide +kernel
theorem dL_size_9 : decode cL_size 9 = .ok (.goto 6, 3) := by decide +kernel
theorem dL_size_12 : decode cL_size 12 = .ok (.astore_n 3, 1) := by decide +kernel
theorem dL_size_13 : decode cL_size 13 = .ok (.iconst 1, 1) := by decide +kernel
theorem dL_size_14 : decode cL_size 14 = .ok (.ireturn, 1) := by decide +kernel
theorem dL_size_15 : decode cL_size 15 = .ok (.iconst 0, 1) := by decide +kernel
theorem dL_size_16 : decode cL_size 16 = .ok (.ireturn, 1) := by decide +kernel
theorem dL_unit_0 : decode cL_unit 0 = .ok (.aload_n 3, 1) := by decide +kernel
theorem dL_unit_1 : decode cL_unit 1 = .ok (.iconst 0, 1) := by decide +kernel
theorem dL_unit_2 : decode cL_unit 2 = .ok (.aload_n 0, 1) := by decide +kernel
theorem dL_unit_3 : decode cL_unit 3 = .ok (.iload_n 1, 1) := by decide +kernel
theorem dL_unit_4 : decode cL_unit 4 = .ok (.iload_n 2, 1) := by decide +kernel
theorem dL_unit_5 : decode cL_unit 5 = .ok (.invokevirtual 20, 3) := by decide +kernel
theorem dL_unit_8 : decode cL_unit 8 = .ok (.i2l, 1) := by decide +kernel
theorem dL_unit_9 : decode cL_unit 9 = .ok (.lastore, 1) := by decide +kernel
theorem dL_unit_10 : decode cL_unit 10 = .ok (.goto 7, 3) := by decide +kernel
theorem dL_unit_13 : decode cL_unit 13 = .ok (.astore 4, 2) := by decide +kernel
theorem dL_unit_15 : decode cL_unit 15 = .ok (.iconst 1, 1) := by decide +kernel
theorem dL_unit_16 : decode cL_unit 16 = .ok (.ireturn, 1) := by decide +kernel
theorem dL_unit_17 : decode cL_unit 17 = .ok (.iconst 0, 1) := by decide +kernel
theorem dL_unit_18 : decode cL_unit 18 = .ok (.ireturn, 1) := by decide +kernel
theorem dL_picket_0 : decode cL_picket 0 = .ok (.aload_n 3, 1) := by decide +kernel
theorem dL_picket_1 : decode cL_picket 1 = .ok (.iconst 0, 1) := by decide +kernel
theorem dL_picket_2 : decode cL_picket 2 = .ok (.aload_n 0, 1) := by decide +kernel
theorem dL_picket_3 : decode cL_picket 3 = .ok (.iload_n 1, 1) := by decide +kernel
theorem dL_picket_4 : decode cL_picket 4 = .ok (.iload_n 2, 1) := by decide +kernel
theorem dL_picket_5 : decode cL_picket 5 = .ok (.invokevirtual 24, 3) := by decide +kernel
theorem dL_picket_8 : decode cL_picket 8 = .ok (.i2l, 1) := by decide +kernel
theorem dL_picket_9 : decode cL_picket 9 = .ok (.lastore, 1) := by decide +kernel
theorem dL_picket_10 : decode cL_picket 10 = .ok (.goto 7, 3) := by decide +kernel
theorem dL_picket_13 : decode cL_picket 13 = .ok (.astore 4, 2) := by decide +kernel
theorem dL_picket_15 : decode cL_picket 15 = .ok (.iconst 1, 1) := by decide +kernel
theorem dL_picket_16 : decode cL_picket 16 = .ok (.ireturn, 1) := by decide +kernel
theorem dL_picket_17 : decode cL_picket 17 = .ok (.iconst 0, 1) := by decide +kernel
theorem dL_picket_18 : decode cL_picket 18 = .ok (.ireturn, 1) := by decide +kernel
theorem dL_order_0 : decode cL_order 0 = .ok (.aload_n 3, 1) := by decide +kernel
theorem dL_order_1 : decode cL_order 1 = .ok (.iconst 0, 1) := by decide +kernel
theorem dL_order_2 : decode cL_order 2 = .ok (.aload_n 0, 1) := by decide +kernel
theorem dL_order_3 : decode cL_order 3 = .ok (.iload_n 1, 1) := by decide +kernel
theorem dL_order_4 : decode cL_order 4 = .ok (.iload_n 2, 1) := by decide +kernel
theorem dL_order_5 : decode cL_order 5 = .ok (.invokevirtual 27, 3) := by decide +kernel
theorem dL_order_8 : decode cL_order 8 = .ok (.i2l, 1) := by decide +kernel
theorem dL_order_9 : decode cL_order 9 = .ok (.lastore, 1) := by decide +kernel
theorem dL_order_10 : decode cL_order 10 = .ok (.goto 7, 3) := by decide +kernel
theorem dL_order_13 : decode cL_order 13 = .ok (.astore 4, 2) := by decide +kernel
theorem dL_order_15 : decode cL_order 15 = .ok (.iconst 1, 1) := by decide +kernel
theorem dL_order_16 : decode cL_order 16 = .ok (.ireturn, 1) := by decide +kernel
theorem dL_order_17 : decode cL_order 17 = .ok (.iconst 0, 1) := by decide +kernel
theorem dL_order_18 : decode cL_order 18 = .ok (.ireturn, 1) := by decide +kernel
theorem dL_plan_0 : decode cL_plan 0 = .ok (.aload_n 3, 1) := by decide +kernel
theorem dL_plan_1 : decode cL_plan 1 = .ok (.iconst 0, 1) := by decide +kernel
theorem dL_plan_2 : decode cL_plan 2 = .ok (.aload_n 0, 1) := by decide +kernel
theorem dL_plan_3 : decode cL_plan 3 = .ok (.iload_n 1, 1) := by decide +kernel
theorem dL_plan_4 : decode cL_plan 4 = .ok (.iload_n 2, 1) := by decide +kernel
theorem dL_plan_5 : decode cL_plan 5 = .ok (.invokevirtual 30, 3) := by decide +kernel
theorem dL_plan_8 : decode cL_plan 8 = .ok (.i2l, 1) := by decide +kernel
theorem dL_plan_9 : decode cL_plan 9 = .ok (.lastore, 1) := by decide +kernel
theorem dL_plan_10 : decode cL_plan 10 = .ok (.goto 7, 3) := by decide +kernel
theorem dL_plan_13 : decode cL_plan 13 = .ok (.astore 4, 2) := by decide +kernel
theorem dL_plan_15 : decode cL_plan 15 = .ok (.iconst 1, 1) := by decide +kernel
theorem dL_plan_16 : decode cL_plan 16 = .ok (.ireturn, 1) := by decide +kernel
theorem dL_plan_17 : decode cL_plan 17 = .ok (.iconst 0, 1) := by decide +kernel
theorem dL_plan_18 : decode cL_plan 18 = .ok (.ireturn, 1) := by decide +kernel
theorem dL_event_0 : decode cL_event 0 = .ok (.aload_n 3, 1) := by decide +kernel
theorem dL_event_1 : decode cL_event 1 = .ok (.iconst 0, 1) := by decide +kernel
theorem dL_event_2 : decode cL_event 2 = .ok (.aload_n 0, 1) := by decide +kernel
theorem dL_event_3 : decode cL_event 3 = .ok (.iload_n 1, 1) := by decide +kernel
theorem dL_event_4 : decode cL_event 4 = .ok (.iload_n 2, 1) := by decide +kernel
theorem dL_event_5 : decode cL_event 5 = .ok (.invokevirtual 33, 3) := by decide +kernel
theorem dL_event_8 : decode cL_event 8 = .ok (.i2l, 1) := by decide +kernel
theorem dL_event_9 : decode cL_event 9 = .ok (.lastore, 1) := by decide +kernel
theorem dL_event_10 : decode cL_event 10 = .ok (.goto 7, 3) := by decide +kernel
theorem dL_event_13 : decode cL_event 13 = .ok (.astore 4, 2) := by decide +kernel
theorem dL_event_15 : decode cL_event 15 = .ok (.iconst 1, 1) := by decide +kernel
theorem dL_event_16 : decode cL_event 16 = .ok (.ireturn, 1) := by decide +kernel
theorem dL_event_17 : decode cL_event 17 = .ok (.iconst 0, 1) := by decide +kernel
theorem dL_event_18 : decode cL_event 18 = .ok (.ireturn, 1) := by decide +kernel
theorem dL_orders_0 : decode cL_orders 0 = .ok (.aload_n 2, 1) := by decide +kernel
theorem dL_orders_1 : decode cL_orders 1 = .ok (.iconst 0, 1) := by decide +kernel
theorem dL_orders_2 : decode cL_orders 2 = .ok (.aload_n 0, 1) := by decide +kernel
theorem dL_orders_3 : decode cL_orders 3 = .ok (.iload_n 1, 1) := by decide +kernel
theorem dL_orders_4 : decode cL_orders 4 = .ok (.invokevirtual 36, 3) := by decide +kernel
theorem dL_orders_7 : decode cL_orders 7 = .ok (.i2l, 1) := by decide +kernel
theorem dL_orders_8 : decode cL_orders 8 = .ok (.lastore, 1) := by decide +kernel
theorem dL_orders_9 : decode cL_orders 9 = .ok (.goto 6, 3) := by decide +kernel
theorem dL_orders_12 : decode cL_orders 12 = .ok (.astore_n 3, 1) := by decide +kernel
theorem dL_orders_13 : decode cL_orders 13 = .ok (.iconst 1, 1) := by decide +kernel
theorem dL_orders_14 : decode cL_orders 14 = .ok (.ireturn, 1) := by decide +kernel
theorem dL_orders_15 : decode cL_orders 15 = .ok (.iconst 0, 1) := by decide +kernel
theorem dL_orders_16 : decode cL_orders 16 = .ok (.ireturn, 1) := by decide +kernel
theorem dL_isWall_0 : decode cL_isWall 0 = .ok (.aload_n 3, 1) := by decide +kernel
theorem dL_isWall_1 : decode cL_isWall 1 = .ok (.iconst 0, 1) := by decide +kernel
theorem dL_isWall_2 : decode cL_isWall 2 = .ok (.aload_n 0, 1) := by decide +kernel
theorem dL_isWall_3 : decode cL_isWall 3 = .ok (.iload_n 1, 1) := by decide +kernel
theorem dL_isWall_4 : decode cL_isWall 4 = .ok (.iload_n 2, 1) := by decide +kernel
theorem dL_isWall_5 : decode cL_isWall 5 = .ok (.invokevirtual 39, 3) := by decide +kernel
theorem dL_isWall_8 : decode cL_isWall 8 = .ok (.ifCond .eq 7, 3) := by decide +kernel
theorem dL_isWall_11 : decode cL_isWall 11 = .ok (.lconst 1, 1) := by decide +kernel
theorem dL_isWall_12 : decode cL_isWall 12 = .ok (.goto 4, 3) := by decide +kernel
theorem dL_isWall_15 : decode cL_isWall 15 = .ok (.lconst 0, 1) := by decide +kernel
theorem dL_isWall_16 : decode cL_isWall 16 = .ok (.lastore, 1) := by decide +kernel
theorem dL_isWall_17 : decode cL_isWall 17 = .ok (.goto 7, 3) := by decide +kernel
theorem dL_isWall_20 : decode cL_isWall 20 = .ok (.astore 4, 2) := by decide +kernel
theorem dL_isWall_22 : decode cL_isWall 22 = .ok (.iconst 1, 1) := by decide +kernel
theorem dL_isWall_23 : decode cL_isWall 23 = .ok (.ireturn, 1) := by decide +kernel
theorem dL_isWall_24 : decode cL_isWall 24 = .ok (.iconst 0, 1) := by decide +kernel
theorem dL_isWall_25 : decode cL_isWall 25 = .ok (.ireturn, 1) := by decide +kernel
theorem dL_isWatched_0 : decode cL_isWatched 0 = .ok (.aload 4, 2) := by decide +kernel
theorem dL_isWatched_2 : decode cL_isWatched 2 = .ok (.iconst 0, 1) := by decide +kernel
theorem dL_isWatched_3 : decode cL_isWatched 3 = .ok (.aload_n 0, 1) := by decide +kernel
theorem dL_isWatched_4 : decode cL_isWatched 4 = .ok (.iload_n 1, 1) := by decide +kernel
theorem dL_isWatched_5 : decode cL_isWatched 5 = .ok (.iload_n 2, 1) := by decide +kernel
theorem dL_isWatched_6 : decode cL_isWatched 6 = .ok (.iload_n 3, 1) := by decide +kernel
theorem dL_isWatched_7 : decode cL_isWatched 7 = .ok (.invokevirtual 43, 3) := by decide +kernel
theorem dL_isWatched_10 : decode cL_isWatched 10 = .ok (.ifCond .eq 7, 3) := by decide +kernel
theorem dL_isWatched_13 : decode cL_isWatched 13 = .ok (.lconst 1, 1) := by decide +kernel
theorem dL_isWatched_14 : decode cL_isWatched 14 = .ok (.goto 4, 3) := by decide +kernel
theorem dL_isWatched_17 : decode cL_isWatched 17 = .ok (.lconst 0, 1) := by decide +kernel
theorem dL_isWatched_18 : decode cL_isWatched 18 = .ok (.lastore, 1) := by decide +kernel
theorem dL_isWatched_19 : decode cL_isWatched 19 = .ok (.goto 11, 3) := by decide +kernel
theorem dL_isWatched_22 : decode cL_isWatched 22 = .ok (.astore 5, 2) := by decide +kernel
theorem dL_isWatched_24 : decode cL_isWatched 24 = .ok (.iconst 1, 1) := by decide +kernel
theorem dL_isWatched_25 : decode cL_isWatched 25 = .ok (.ireturn, 1) := by decide +kernel
theorem dL_isWatched_26 : decode cL_isWatched 26 = .ok (.astore 5, 2) := by decide +kernel
theorem dL_isWatched_28 : decode cL_isWatched 28 = .ok (.iconst 2, 1) := by decide +kernel
theorem dL_isWatched_29 : decode cL_isWatched 29 = .ok (.ireturn, 1) := by decide +kernel
theorem dL_isWatched_30 : decode cL_isWatched 30 = .ok (.iconst 0, 1) := by decide +kernel
theorem dL_isWatched_31 : decode cL_isWatched 31 = .ok (.ireturn, 1) := by decide +kernel
theorem dL_distance_0 : decode cL_distance 0 = .ok (.aload 5, 2) := by decide +kernel
theorem dL_distance_2 : decode cL_distance 2 = .ok (.iconst 0, 1) := by decide +kernel
theorem dL_distance_3 : decode cL_distance 3 = .ok (.aload_n 0, 1) := by decide +kernel
theorem dL_distance_4 : decode cL_distance 4 = .ok (.iload_n 1, 1) := by decide +kernel
theorem dL_distance_5 : decode cL_distance 5 = .ok (.iload_n 2, 1) := by decide +kernel
theorem dL_distance_6 : decode cL_distance 6 = .ok (.iload_n 3, 1) := by decide +kernel
theorem dL_distance_7 : decode cL_distance 7 = .ok (.iload 4, 2) := by decide +kernel
theorem dL_distance_9 : decode cL_distance 9 = .ok (.invokevirtual 47, 3) := by decide +kernel
theorem dL_distance_12 : decode cL_distance 12 = .ok (.i2l, 1) := by decide +kernel
theorem dL_distance_13 : decode cL_distance 13 = .ok (.lastore, 1) := by decide +kernel
theorem dL_distance_14 : decode cL_distance 14 = .ok (.goto 7, 3) := by decide +kernel
theorem dL_distance_17 : decode cL_distance 17 = .ok (.astore 6, 2) := by decide +kernel
theorem dL_distance_19 : decode cL_distance 19 = .ok (.iconst 1, 1) := by decide +kernel
theorem dL_distance_20 : decode cL_distance 20 = .ok (.ireturn, 1) := by decide +kernel
theorem dL_distance_21 : decode cL_distance 21 = .ok (.iconst 0, 1) := by decide +kernel
theorem dL_distance_22 : decode cL_distance 22 = .ok (.ireturn, 1) := by decide +kernel
theorem dL_step_0 : decode cL_step 0 = .ok (.aload 5, 2) := by decide +kernel
theorem dL_step_2 : decode cL_step 2 = .ok (.iconst 0, 1) := by decide +kernel
theorem dL_step_3 : decode cL_step 3 = .ok (.aload_n 0, 1) := by decide +kernel
theorem dL_step_4 : decode cL_step 4 = .ok (.iload_n 1, 1) := by decide +kernel
theorem dL_step_5 : decode cL_step 5 = .ok (.iload_n 2, 1) := by decide +kernel
theorem dL_step_6 : decode cL_step 6 = .ok (.iload_n 3, 1) := by decide +kernel
theorem dL_step_7 : decode cL_step 7 = .ok (.iload 4, 2) := by decide +kernel
theorem dL_step_9 : decode cL_step 9 = .ok (.invokevirtual 51, 3) := by decide +kernel
theorem dL_step_12 : decode cL_step 12 = .ok (.i2l, 1) := by decide +kernel
theorem dL_step_13 : decode cL_step 13 = .ok (.lastore, 1) := by decide +kernel
theorem dL_step_14 : decode cL_step 14 = .ok (.goto 7, 3) := by decide +kernel
theorem dL_step_17 : decode cL_step 17 = .ok (.astore 6, 2) := by decide +kernel
theorem dL_step_19 : decode cL_step 19 = .ok (.iconst 1, 1) := by decide +kernel
theorem dL_step_20 : decode cL_step 20 = .ok (.ireturn, 1) := by decide +kernel
theorem dL_step_21 : decode cL_step 21 = .ok (.iconst 0, 1) := by decide +kernel
theorem dL_step_22 : decode cL_step 22 = .ok (.ireturn, 1) := by decide +kernel
theorem dL_wasAt_0 : decode cL_wasAt 0 = .ok (.aload_n 3, 1) := by decide +kernel
theorem dL_wasAt_1 : decode cL_wasAt 1 = .ok (.iconst 0, 1) := by decide +kernel
theorem dL_wasAt_2 : decode cL_wasAt 2 = .ok (.aload_n 0, 1) := by decide +kernel
theorem dL_wasAt_3 : decode cL_wasAt 3 = .ok (.iload_n 1, 1) := by decide +kernel
theorem dL_wasAt_4 : decode cL_wasAt 4 = .ok (.iload_n 2, 1) := by decide +kernel
theorem dL_wasAt_5 : decode cL_wasAt 5 = .ok (.invokevirtual 54, 3) := by decide +kernel
theorem dL_wasAt_8 : decode cL_wasAt 8 = .ok (.i2l, 1) := by decide +kernel
theorem dL_wasAt_9 : decode cL_wasAt 9 = .ok (.lastore, 1) := by decide +kernel
theorem dL_wasAt_10 : decode cL_wasAt 10 = .ok (.goto 11, 3) := by decide +kernel
theorem dL_wasAt_13 : decode cL_wasAt 13 = .ok (.astore 4, 2) := by decide +kernel
theorem dL_wasAt_15 : decode cL_wasAt 15 = .ok (.iconst 1, 1) := by decide +kernel
theorem dL_wasAt_16 : decode cL_wasAt 16 = .ok (.ireturn, 1) := by decide +kernel
theorem dL_wasAt_17 : decode cL_wasAt 17 = .ok (.astore 4, 2) := by decide +kernel
theorem dL_wasAt_19 : decode cL_wasAt 19 = .ok (.iconst 2, 1) := by decide +kernel
theorem dL_wasAt_20 : decode cL_wasAt 20 = .ok (.ireturn, 1) := by decide +kernel
theorem dL_wasAt_21 : decode cL_wasAt 21 = .ok (.iconst 0, 1) := by decide +kernel
theorem dL_wasAt_22 : decode cL_wasAt 22 = .ok (.ireturn, 1) := by decide +kernel
theorem dL_stateAt_0 : decode cL_stateAt 0 = .ok (.aload_n 3, 1) := by decide +kernel
theorem dL_stateAt_1 : decode cL_stateAt 1 = .ok (.iconst 0, 1) := by decide +kernel
theorem dL_stateAt_2 : decode cL_stateAt 2 = .ok (.aload_n 0, 1) := by decide +kernel
theorem dL_stateAt_3 : decode cL_stateAt 3 = .ok (.iload_n 1, 1) := by decide +kernel
theorem dL_stateAt_4 : decode cL_stateAt 4 = .ok (.iload_n 2, 1) := by decide +kernel
theorem dL_stateAt_5 : decode cL_stateAt 5 = .ok (.invokevirtual 57, 3) := by decide +kernel
theorem dL_stateAt_8 : decode cL_stateAt 8 = .ok (.i2l, 1) := by decide +kernel
theorem dL_stateAt_9 : decode cL_stateAt 9 = .ok (.lastore, 1) := by decide +kernel
theorem dL_stateAt_10 : decode cL_stateAt 10 = .ok (.goto 11, 3) := by decide +kernel
theorem dL_stateAt_13 : decode cL_stateAt 13 = .ok (.astore 4, 2) := by decide +kernel
theorem dL_stateAt_15 : decode cL_stateAt 15 = .ok (.iconst 1, 1) := by decide +kernel
theorem dL_stateAt_16 : decode cL_stateAt 16 = .ok (.ireturn, 1) := by decide +kernel
theorem dL_stateAt_17 : decode cL_stateAt 17 = .ok (.astore 4, 2) := by decide +kernel
theorem dL_stateAt_19 : decode cL_stateAt 19 = .ok (.iconst 2, 1) := by decide +kernel
theorem dL_stateAt_20 : decode cL_stateAt 20 = .ok (.ireturn, 1) := by decide +kernel
theorem dL_stateAt_21 : decode cL_stateAt 21 = .ok (.iconst 0, 1) := by decide +kernel
theorem dL_stateAt_22 : decode cL_stateAt 22 = .ok (.ireturn, 1) := by decide +kernel
theorem dL_wouldBe_0 : decode cL_wouldBe 0 = .ok (.aload 5, 2) := by decide +kernel
theorem dL_wouldBe_2 : decode cL_wouldBe 2 = .ok (.iconst 0, 1) := by decide +kernel
theorem dL_wouldBe_3 : decode cL_wouldBe 3 = .ok (.aload_n 0, 1) := by decide +kernel
theorem dL_wouldBe_4 : decode cL_wouldBe 4 = .ok (.iload_n 1, 1) := by decide +kernel
theorem dL_wouldBe_5 : decode cL_wouldBe 5 = .ok (.iload_n 2, 1) := by decide +kernel
theorem dL_wouldBe_6 : decode cL_wouldBe 6 = .ok (.iload_n 3, 1) := by decide +kernel
theorem dL_wouldBe_7 : decode cL_wouldBe 7 = .ok (.iload 4, 2) := by decide +kernel
theorem dL_wouldBe_9 : decode cL_wouldBe 9 = .ok (.invokevirtual 60, 3) := by decide +kernel
theorem dL_wouldBe_12 : decode cL_wouldBe 12 = .ok (.i2l, 1) := by decide +kernel
theorem dL_wouldBe_13 : decode cL_wouldBe 13 = .ok (.lastore, 1) := by decide +kernel
theorem dL_wouldBe_14 : decode cL_wouldBe 14 = .ok (.goto 11, 3) := by decide +kernel
theorem dL_wouldBe_17 : decode cL_wouldBe 17 = .ok (.astore 6, 2) := by decide +kernel
theorem dL_wouldBe_19 : decode cL_wouldBe 19 = .ok (.iconst 1, 1) := by decide +kernel
theorem dL_wouldBe_20 : decode cL_wouldBe 20 = .ok (.ireturn, 1) := by decide +kernel
theorem dL_wouldBe_21 : decode cL_wouldBe 21 = .ok (.astore 6, 2) := by decide +kernel
theorem dL_wouldBe_23 : decode cL_wouldBe 23 = .ok (.iconst 2, 1) := by decide +kernel
theorem dL_wouldBe_24 : decode cL_wouldBe 24 = .ok (.ireturn, 1) := by decide +kernel
theorem dL_wouldBe_25 : decode cL_wouldBe 25 = .ok (.iconst 0, 1) := by decide +kernel
theorem dL_wouldBe_26 : decode cL_wouldBe 26 = .ok (.ireturn, 1) := by decide +kernel
theorem dL_wouldArrive_0 : decode cL_wouldArrive 0 = .ok (.aload 4, 2) := by decide +kernel
theorem dL_wouldArrive_2 : decode cL_wouldArrive 2 = .ok (.iconst 0, 1) := by decide +kernel
theorem dL_wouldArrive_3 : decode cL_wouldArrive 3 = .ok (.aload_n 0, 1) := by decide +kernel
theorem dL_wouldArrive_4 : decode cL_wouldArrive 4 = .ok (.iload_n 1, 1) := by decide +kernel
theorem dL_wouldArrive_5 : decode cL_wouldArrive 5 = .ok (.iload_n 2, 1) := by decide +kernel
theorem dL_wouldArrive_6 : decode cL_wouldArrive 6 = .ok (.iload_n 3, 1) := by decide +kernel
theorem dL_wouldArrive_7 : decode cL_wouldArrive 7 = .ok (.invokevirtual 63, 3) := by decide +kernel
theorem dL_wouldArrive_10 : decode cL_wouldArrive 10 = .ok (.i2l, 1) := by decide +kernel
theorem dL_wouldArrive_11 : decode cL_wouldArrive 11 = .ok (.lastore, 1) := by decide +kernel
theorem dL_wouldArrive_12 : decode cL_wouldArrive 12 = .ok (.goto 11, 3) := by decide +kernel
theorem dL_wouldArrive_15 : decode cL_wouldArrive 15 = .ok (.astore 5, 2) := by decide +kernel
theorem dL_wouldArrive_17 : decode cL_wouldArrive 17 = .ok (.iconst 1, 1) := by decide +kernel
theorem dL_wouldArrive_18 : decode cL_wouldArrive 18 = .ok (.ireturn, 1) := by decide +kernel
theorem dL_wouldArrive_19 : decode cL_wouldArrive 19 = .ok (.astore 5, 2) := by decide +kernel
theorem dL_wouldArrive_21 : decode cL_wouldArrive 21 = .ok (.iconst 2, 1) := by decide +kernel
theorem dL_wouldArrive_22 : decode cL_wouldArrive 22 = .ok (.ireturn, 1) := by decide +kernel
theorem dL_wouldArrive_23 : decode cL_wouldArrive 23 = .ok (.iconst 0, 1) := by decide +kernel
theorem dL_wouldArrive_24 : decode cL_wouldArrive 24 = .ok (.ireturn, 1) := by decide +kernel
theorem dL_bestDelay_0 : decode cL_bestDelay 0 = .ok (.aload 4, 2) := by decide +kernel
theorem dL_bestDelay_2 : decode cL_bestDelay 2 = .ok (.iconst 0, 1) := by decide +kernel
theorem dL_bestDelay_3 : decode cL_bestDelay 3 = .ok (.aload_n 0, 1) := by decide +kernel
theorem dL_bestDelay_4 : decode cL_bestDelay 4 = .ok (.iload_n 1, 1) := by decide +kernel
theorem dL_bestDelay_5 : decode cL_bestDelay 5 = .ok (.iload_n 2, 1) := by decide +kernel
theorem dL_bestDelay_6 : decode cL_bestDelay 6 = .ok (.iload_n 3, 1) := by decide +kernel
theorem dL_bestDelay_7 : decode cL_bestDelay 7 = .ok (.invokevirtual 67, 3) := by decide +kernel
theorem dL_bestDelay_10 : decode cL_bestDelay 10 = .ok (.i2l, 1) := by decide +kernel
theorem dL_bestDelay_11 : decode cL_bestDelay 11 = .ok (.lastore, 1) := by decide +kernel
theorem dL_bestDelay_12 : decode cL_bestDelay 12 = .ok (.goto 11, 3) := by decide +kernel
theorem dL_bestDelay_15 : decode cL_bestDelay 15 = .ok (.astore 5, 2) := by decide +kernel
theorem dL_bestDelay_17 : decode cL_bestDelay 17 = .ok (.iconst 1, 1) := by decide +kernel
theorem dL_bestDelay_18 : decode cL_bestDelay 18 = .ok (.ireturn, 1) := by decide +kernel
theorem dL_bestDelay_19 : decode cL_bestDelay 19 = .ok (.astore 5, 2) := by decide +kernel
theorem dL_bestDelay_21 : decode cL_bestDelay 21 = .ok (.iconst 2, 1) := by decide +kernel
theorem dL_bestDelay_22 : decode cL_bestDelay 22 = .ok (.ireturn, 1) := by decide +kernel
theorem dL_bestDelay_23 : decode cL_bestDelay 23 = .ok (.iconst 0, 1) := by decide +kernel
theorem dL_bestDelay_24 : decode cL_bestDelay 24 = .ok (.ireturn, 1) := by decide +kernel
theorem dL_failing_0 : decode cL_failing 0 = .ok (.aload_n 2, 1) := by decide +kernel
theorem dL_failing_1 : decode cL_failing 1 = .ok (.iconst 0, 1) := by decide +kernel
theorem dL_failing_2 : decode cL_failing 2 = .ok (.aload_n 0, 1) := by decide +kernel
theorem dL_failing_3 : decode cL_failing 3 = .ok (.iload_n 1, 1) := by decide +kernel
theorem dL_failing_4 : decode cL_failing 4 = .ok (.invokevirtual 70, 3) := by decide +kernel
theorem dL_failing_7 : decode cL_failing 7 = .ok (.i2l, 1) := by decide +kernel
theorem dL_failing_8 : decode cL_failing 8 = .ok (.lastore, 1) := by decide +kernel
theorem dL_failing_9 : decode cL_failing 9 = .ok (.goto 6, 3) := by decide +kernel
theorem dL_failing_12 : decode cL_failing 12 = .ok (.astore_n 3, 1) := by decide +kernel
theorem dL_failing_13 : decode cL_failing 13 = .ok (.iconst 1, 1) := by decide +kernel
theorem dL_failing_14 : decode cL_failing 14 = .ok (.ireturn, 1) := by decide +kernel
theorem dL_failing_15 : decode cL_failing 15 = .ok (.iconst 0, 1) := by decide +kernel
theorem dL_failing_16 : decode cL_failing 16 = .ok (.ireturn, 1) := by decide +kernel
theorem dL_pass_0 : decode cL_pass 0 = .ok (.aload_n 2, 1) := by decide +kernel
theorem dL_pass_1 : decode cL_pass 1 = .ok (.iconst 0, 1) := by decide +kernel
theorem dL_pass_2 : decode cL_pass 2 = .ok (.aload_n 0, 1) := by decide +kernel
theorem dL_pass_3 : decode cL_pass 3 = .ok (.iload_n 1, 1) := by decide +kernel
theorem dL_pass_4 : decode cL_pass 4 = .ok (.invokevirtual 73, 3) := by decide +kernel
theorem dL_pass_7 : decode cL_pass 7 = .ok (.i2l, 1) := by decide +kernel
theorem dL_pass_8 : decode cL_pass 8 = .ok (.lastore, 1) := by decide +kernel
theorem dL_pass_9 : decode cL_pass 9 = .ok (.goto 6, 3) := by decide +kernel
theorem dL_pass_12 : decode cL_pass 12 = .ok (.astore_n 3, 1) := by decide +kernel
theorem dL_pass_13 : decode cL_pass 13 = .ok (.iconst 1, 1) := by decide +kernel
theorem dL_pass_14 : decode cL_pass 14 = .ok (.ireturn, 1) := by decide +kernel
theorem dL_pass_15 : decode cL_pass 15 = .ok (.iconst 0, 1) := by decide +kernel
theorem dL_pass_16 : decode cL_pass 16 = .ok (.ireturn, 1) := by decide +kernel
theorem dL_send_0 : decode cL_send 0 = .ok (.aload 4, 2) := by decide +kernel
theorem dL_send_2 : decode cL_send 2 = .ok (.iconst 0, 1) := by decide +kernel
theorem dL_send_3 : decode cL_send 3 = .ok (.aload_n 0, 1) := by decide +kernel
theorem dL_send_4 : decode cL_send 4 = .ok (.iload_n 1, 1) := by decide +kernel
theorem dL_send_5 : decode cL_send 5 = .ok (.iload_n 2, 1) := by decide +kernel
theorem dL_send_6 : decode cL_send 6 = .ok (.iload_n 3, 1) := by decide +kernel
theorem dL_send_7 : decode cL_send 7 = .ok (.invokevirtual 76, 3) := by decide +kernel
theorem dL_send_10 : decode cL_send 10 = .ok (.i2l, 1) := by decide +kernel
theorem dL_send_11 : decode cL_send 11 = .ok (.lastore, 1) := by decide +kernel
theorem dL_send_12 : decode cL_send 12 = .ok (.goto 11, 3) := by decide +kernel
theorem dL_send_15 : decode cL_send 15 = .ok (.astore 5, 2) := by decide +kernel
theorem dL_send_17 : decode cL_send 17 = .ok (.iconst 1, 1) := by decide +kernel
theorem dL_send_18 : decode cL_send 18 = .ok (.ireturn, 1) := by decide +kernel
theorem dL_send_19 : decode cL_send 19 = .ok (.astore 5, 2) := by decide +kernel
theorem dL_send_21 : decode cL_send 21 = .ok (.iconst 2, 1) := by decide +kernel
theorem dL_send_22 : decode cL_send 22 = .ok (.ireturn, 1) := by decide +kernel
theorem dL_send_23 : decode cL_send 23 = .ok (.iconst 0, 1) := by decide +kernel
theorem dL_send_24 : decode cL_send 24 = .ok (.ireturn, 1) := by decide +kernel
theorem dL_wall_0 : decode cL_wall 0 = .ok (.aload_n 3, 1) := by decide +kernel
theorem dL_wall_1 : decode cL_wall 1 = .ok (.iconst 0, 1) := by decide +kernel
theorem dL_wall_2 : decode cL_wall 2 = .ok (.aload_n 0, 1) := by decide +kernel
theorem dL_wall_3 : decode cL_wall 3 = .ok (.iload_n 1, 1) := by decide +kernel
theorem dL_wall_4 : decode cL_wall 4 = .ok (.iload_n 2, 1) := by decide +kernel
theorem dL_wall_5 : decode cL_wall 5 = .ok (.invokevirtual 79, 3) := by decide +kernel
theorem dL_wall_8 : decode cL_wall 8 = .ok (.i2l, 1) := by decide +kernel
theorem dL_wall_9 : decode cL_wall 9 = .ok (.lastore, 1) := by decide +kernel
theorem dL_wall_10 : decode cL_wall 10 = .ok (.goto 7, 3) := by decide +kernel
theorem dL_wall_13 : decode cL_wall 13 = .ok (.astore 4, 2) := by decide +kernel
theorem dL_wall_15 : decode cL_wall 15 = .ok (.iconst 1, 1) := by decide +kernel
theorem dL_wall_16 : decode cL_wall 16 = .ok (.ireturn, 1) := by decide +kernel
theorem dL_wall_17 : decode cL_wall 17 = .ok (.iconst 0, 1) := by decide +kernel
theorem dL_wall_18 : decode cL_wall 18 = .ok (.ireturn, 1) := by decide +kernel
theorem dL_movePicket_0 : decode cL_movePicket 0 = .ok (.aload 4, 2) := by decide +kernel
theorem dL_movePicket_2 : decode cL_movePicket 2 = .ok (.iconst 0, 1) := by decide +kernel
theorem dL_movePicket_3 : decode cL_movePicket 3 = .ok (.aload_n 0, 1) := by decide +kernel
theorem dL_movePicket_4 : decode cL_movePicket 4 = .ok (.iload_n 1, 1) := by decide +kernel
theorem dL_movePicket_5 : decode cL_movePicket 5 = .ok (.iload_n 2, 1) := by decide +kernel
theorem dL_movePicket_6 : decode cL_movePicket 6 = .ok (.iload_n 3, 1) := by decide +kernel
theorem dL_movePicket_7 : decode cL_movePicket 7 = .ok (.invokevirtual 82, 3) := by decide +kernel
theorem dL_movePicket_10 : decode cL_movePicket 10 = .ok (.i2l, 1) := by decide +kernel
theorem dL_movePicket_11 : decode cL_movePicket 11 = .ok (.lastore, 1) := by decide +kernel
theorem dL_movePicket_12 : decode cL_movePicket 12 = .ok (.goto 7, 3) := by decide +kernel
theorem dL_movePicket_15 : decode cL_movePicket 15 = .ok (.astore 5, 2) := by decide +kernel
theorem dL_movePicket_17 : decode cL_movePicket 17 = .ok (.iconst 1, 1) := by decide +kernel
theorem dL_movePicket_18 : decode cL_movePicket 18 = .ok (.ireturn, 1) := by decide +kernel
theorem dL_movePicket_19 : decode cL_movePicket 19 = .ok (.iconst 0, 1) := by decide +kernel
theorem dL_movePicket_20 : decode cL_movePicket 20 = .ok (.ireturn, 1) := by decide +kernel
theorem dL_movePlan_0 : decode cL_movePlan 0 = .ok (.aload_n 3, 1) := by decide +kernel
theorem dL_movePlan_1 : decode cL_movePlan 1 = .ok (.iconst 0, 1) := by decide +kernel
theorem dL_movePlan_2 : decode cL_movePlan 2 = .ok (.aload_n 0, 1) := by decide +kernel
theorem dL_movePlan_3 : decode cL_movePlan 3 = .ok (.iload_n 1, 1) := by decide +kernel
theorem dL_movePlan_4 : decode cL_movePlan 4 = .ok (.iload_n 2, 1) := by decide +kernel
theorem dL_movePlan_5 : decode cL_movePlan 5 = .ok (.invokevirtual 85, 3) := by decide +kernel
theorem dL_movePlan_8 : decode cL_movePlan 8 = .ok (.i2l, 1) := by decide +kernel
theorem dL_movePlan_9 : decode cL_movePlan 9 = .ok (.lastore, 1) := by decide +kernel
theorem dL_movePlan_10 : decode cL_movePlan 10 = .ok (.goto 11, 3) := by decide +kernel
theorem dL_movePlan_13 : decode cL_movePlan 13 = .ok (.astore 4, 2) := by decide +kernel
theorem dL_movePlan_15 : decode cL_movePlan 15 = .ok (.iconst 1, 1) := by decide +kernel
theorem dL_movePlan_16 : decode cL_movePlan 16 = .ok (.ireturn, 1) := by decide +kernel
theorem dL_movePlan_17 : decode cL_movePlan 17 = .ok (.astore 4, 2) := by decide +kernel
theorem dL_movePlan_19 : decode cL_movePlan 19 = .ok (.iconst 2, 1) := by decide +kernel
theorem dL_movePlan_20 : decode cL_movePlan 20 = .ok (.ireturn, 1) := by decide +kernel
theorem dL_movePlan_21 : decode cL_movePlan 21 = .ok (.iconst 0, 1) := by decide +kernel
theorem dL_movePlan_22 : decode cL_movePlan 22 = .ok (.ireturn, 1) := by decide +kernel
theorem dL_setPatience_0 : decode cL_setPatience 0 = .ok (.aload_n 2, 1) := by decide +kernel
theorem dL_setPatience_1 : decode cL_setPatience 1 = .ok (.iconst 0, 1) := by decide +kernel
theorem dL_setPatience_2 : decode cL_setPatience 2 = .ok (.aload_n 0, 1) := by decide +kernel
theorem dL_setPatience_3 : decode cL_setPatience 3 = .ok (.iload_n 1, 1) := by decide +kernel
theorem dL_setPatience_4 : decode cL_setPatience 4 = .ok (.invokevirtual 88, 3) := by decide +kernel
theorem dL_setPatience_7 : decode cL_setPatience 7 = .ok (.i2l, 1) := by decide +kernel
theorem dL_setPatience_8 : decode cL_setPatience 8 = .ok (.lastore, 1) := by decide +kernel
theorem dL_setPatience_9 : decode cL_setPatience 9 = .ok (.goto 6, 3) := by decide +kernel
theorem dL_setPatience_12 : decode cL_setPatience 12 = .ok (.astore_n 3, 1) := by decide +kernel
theorem dL_setPatience_13 : decode cL_setPatience 13 = .ok (.iconst 1, 1) := by decide +kernel
theorem dL_setPatience_14 : decode cL_setPatience 14 = .ok (.ireturn, 1) := by decide +kernel
theorem dL_setPatience_15 : decode cL_setPatience 15 = .ok (.iconst 0, 1) := by decide +kernel
theorem dL_setPatience_16 : decode cL_setPatience 16 = .ok (.ireturn, 1) := by decide +kernel
theorem dL_format_0 : decode cL_format 0 = .ok (.aload_n 2, 1) := by decide +kernel
theorem dL_format_1 : decode cL_format 1 = .ok (.iconst 0, 1) := by decide +kernel
theorem dL_format_2 : decode cL_format 2 = .ok (.aload_n 0, 1) := by decide +kernel
theorem dL_format_3 : decode cL_format 3 = .ok (.iload_n 1, 1) := by decide +kernel
theorem dL_format_4 : decode cL_format 4 = .ok (.invokevirtual 91, 3) := by decide +kernel
theorem dL_format_7 : decode cL_format 7 = .ok (.i2l, 1) := by decide +kernel
theorem dL_format_8 : decode cL_format 8 = .ok (.lastore, 1) := by decide +kernel
theorem dL_format_9 : decode cL_format 9 = .ok (.goto 6, 3) := by decide +kernel
theorem dL_format_12 : decode cL_format 12 = .ok (.astore_n 3, 1) := by decide +kernel
theorem dL_format_13 : decode cL_format 13 = .ok (.iconst 1, 1) := by decide +kernel
theorem dL_format_14 : decode cL_format 14 = .ok (.ireturn, 1) := by decide +kernel
theorem dL_format_15 : decode cL_format 15 = .ok (.iconst 0, 1) := by decide +kernel
theorem dL_format_16 : decode cL_format 16 = .ok (.ireturn, 1) := by decide +kernel
theorem dL_query_0 : decode cL_query 0 = .ok (.aload_n 2, 1) := by decide +kernel
theorem dL_query_1 : decode cL_query 1 = .ok (.iconst 0, 1) := by decide +kernel
theorem dL_query_2 : decode cL_query 2 = .ok (.aload_n 0, 1) := by decide +kernel
theorem dL_query_3 : decode cL_query 3 = .ok (.iload_n 1, 1) := by decide +kernel
theorem dL_query_4 : decode cL_query 4 = .ok (.invokevirtual 94, 3) := by decide +kernel
theorem dL_query_7 : decode cL_query 7 = .ok (.i2l, 1) := by decide +kernel
theorem dL_query_8 : decode cL_query 8 = .ok (.lastore, 1) := by decide +kernel
theorem dL_query_9 : decode cL_query 9 = .ok (.goto 6, 3) := by decide +kernel
theorem dL_query_12 : decode cL_query 12 = .ok (.astore_n 3, 1) := by decide +kernel
theorem dL_query_13 : decode cL_query 13 = .ok (.iconst 1, 1) := by decide +kernel
theorem dL_query_14 : decode cL_query 14 = .ok (.ireturn, 1) := by decide +kernel
theorem dL_query_15 : decode cL_query 15 = .ok (.iconst 0, 1) := by decide +kernel
theorem dL_query_16 : decode cL_query 16 = .ok (.ireturn, 1) := by decide +kernel
theorem dL_law_0 : decode cL_law 0 = .ok (.new 8, 3) := by decide +kernel
theorem dL_law_3 : decode cL_law 3 = .ok (.dup, 1) := by decide +kernel
theorem dL_law_4 : decode cL_law 4 = .ok (.invokespecial 97, 3) := by decide +kernel
theorem dL_law_7 : decode cL_law 7 = .ok (.astore_n 1, 1) := by decide +kernel
theorem dL_law_8 : decode cL_law 8 = .ok (.new 98, 3) := by decide +kernel
theorem dL_law_11 : decode cL_law 11 = .ok (.dup, 1) := by decide +kernel
theorem dL_law_12 : decode cL_law 12 = .ok (.invokespecial 100, 3) := by decide +kernel
theorem dL_law_15 : decode cL_law 15 = .ok (.astore_n 2, 1) := by decide +kernel
theorem dL_law_16 : decode cL_law 16 = .ok (.iconst 1, 1) := by decide +kernel
theorem dL_law_17 : decode cL_law 17 = .ok (.newarray .long, 2) := by decide +kernel
theorem dL_law_19 : decode cL_law 19 = .ok (.astore_n 3, 1) := by decide +kernel
theorem dL_law_20 : decode cL_law 20 = .ok (.iconst 0, 1) := by decide +kernel
theorem dL_law_21 : decode cL_law 21 = .ok (.istore 4, 2) := by decide +kernel
theorem dL_law_23 : decode cL_law 23 = .ok (.iload 4, 2) := by decide +kernel
theorem dL_law_25 : decode cL_law 25 = .ok (.aload_n 0, 1) := by decide +kernel
theorem dL_law_26 : decode cL_law 26 = .ok (.arraylength, 1) := by decide +kernel
theorem dL_law_27 : decode cL_law 27 = .ok (.bipush 6, 2) := by decide +kernel
theorem dL_law_29 : decode cL_law 29 = .ok (.isub, 1) := by decide +kernel
theorem dL_law_30 : decode cL_law 30 = .ok (.if_icmp .gt 2252, 3) := by decide +kernel
theorem dL_law_33 : decode cL_law 33 = .ok (.aload_n 0, 1) := by decide +kernel
theorem dL_law_34 : decode cL_law 34 = .ok (.iload 4, 2) := by decide +kernel
theorem dL_law_36 : decode cL_law 36 = .ok (.iaload, 1) := by decide +kernel
theorem dL_law_37 : decode cL_law 37 = .ok (.bipush 63, 2) := by decide +kernel
theorem dL_law_39 : decode cL_law 39 = .ok (.iand, 1) := by decide +kernel
theorem dL_law_40 : decode cL_law 40 = .ok (.tableswitch 2236 0 35 #[160, 233, 289, 302, 358, 426, 494, 562, 630, 698, 754, 829, 916, 1008, 1100, 1168, 1236, 1249, 1341, 1421, 1501, 1557, 1598, 1641, 1697, 1777, 1845, 1925, 1993, 2049, 2105, 2130, 2143, 2156, 2167, 2180], 160) := by decide +kernel
theorem dL_law_200 : decode cL_law 200 = .ok (.aload_n 1, 1) := by decide +kernel
theorem dL_law_201 : decode cL_law 201 = .ok (.aload_n 0, 1) := by decide +kernel
theorem dL_law_202 : decode cL_law 202 = .ok (.iload 4, 2) := by decide +kernel
theorem dL_law_204 : decode cL_law 204 = .ok (.iconst 1, 1) := by decide +kernel
theorem dL_law_205 : decode cL_law 205 = .ok (.iadd, 1) := by decide +kernel
theorem dL_law_206 : decode cL_law 206 = .ok (.iaload, 1) := by decide +kernel
theorem dL_law_207 : decode cL_law 207 = .ok (.aload_n 0, 1) := by decide +kernel
theorem dL_law_208 : decode cL_law 208 = .ok (.iload 4, 2) := by decide +kernel
theorem dL_law_210 : decode cL_law 210 = .ok (.iconst 2, 1) := by decide +kernel
theorem dL_law_211 : decode cL_law 211 = .ok (.iadd, 1) := by decide +kernel
theorem dL_law_212 : decode cL_law 212 = .ok (.iaload, 1) := by decide +kernel
theorem dL_law_213 : decode cL_law 213 = .ok (.aload_n 0, 1) := by decide +kernel
theorem dL_law_214 : decode cL_law 214 = .ok (.iload 4, 2) := by decide +kernel
theorem dL_law_216 : decode cL_law 216 = .ok (.iconst 3, 1) := by decide +kernel
theorem dL_law_217 : decode cL_law 217 = .ok (.iadd, 1) := by decide +kernel
theorem dL_law_218 : decode cL_law 218 = .ok (.iaload, 1) := by decide +kernel
theorem dL_law_219 : decode cL_law 219 = .ok (.aload_n 0, 1) := by decide +kernel
theorem dL_law_220 : decode cL_law 220 = .ok (.iload 4, 2) := by decide +kernel
theorem dL_law_222 : decode cL_law 222 = .ok (.iconst 4, 1) := by decide +kernel
theorem dL_law_223 : decode cL_law 223 = .ok (.iadd, 1) := by decide +kernel
theorem dL_law_224 : decode cL_law 224 = .ok (.iaload, 1) := by decide +kernel
theorem dL_law_225 : decode cL_law 225 = .ok (.aload_n 0, 1) := by decide +kernel
theorem dL_law_226 : decode cL_law 226 = .ok (.iload 4, 2) := by decide +kernel
theorem dL_law_228 : decode cL_law 228 = .ok (.iconst 5, 1) := by decide +kernel
theorem dL_law_229 : decode cL_law 229 = .ok (.iadd, 1) := by decide +kernel
theorem dL_law_230 : decode cL_law 230 = .ok (.iaload, 1) := by decide +kernel
theorem dL_law_231 : decode cL_law 231 = .ok (.invokevirtual 101, 3) := by decide +kernel
theorem dL_law_234 : decode cL_law 234 = .ok (.aload_n 2, 1) := by decide +kernel
theorem dL_law_235 : decode cL_law 235 = .ok (.aload_n 0, 1) := by decide +kernel
theorem dL_law_236 : decode cL_law 236 = .ok (.iload 4, 2) := by decide +kernel
theorem dL_law_238 : decode cL_law 238 = .ok (.iconst 1, 1) := by decide +kernel
theorem dL_law_239 : decode cL_law 239 = .ok (.iadd, 1) := by decide +kernel
theorem dL_law_240 : decode cL_law 240 = .ok (.iaload, 1) := by decide +kernel
theorem dL_law_241 : decode cL_law 241 = .ok (.aload_n 0, 1) := by decide +kernel
theorem dL_law_242 : decode cL_law 242 = .ok (.iload 4, 2) := by decide +kernel
theorem dL_law_244 : decode cL_law 244 = .ok (.iconst 2, 1) := by decide +kernel
theorem dL_law_245 : decode cL_law 245 = .ok (.iadd, 1) := by decide +kernel
theorem dL_law_246 : decode cL_law 246 = .ok (.iaload, 1) := by decide +kernel
theorem dL_law_247 : decode cL_law 247 = .ok (.aload_n 0, 1) := by decide +kernel
theorem dL_law_248 : decode cL_law 248 = .ok (.iload 4, 2) := by decide +kernel
theorem dL_law_250 : decode cL_law 250 = .ok (.iconst 3, 1) := by decide +kernel
theorem dL_law_251 : decode cL_law 251 = .ok (.iadd, 1) := by decide +kernel
theorem dL_law_252 : decode cL_law 252 = .ok (.iaload, 1) := by decide +kernel
theorem dL_law_253 : decode cL_law 253 = .ok (.aload_n 0, 1) := by decide +kernel
theorem dL_law_254 : decode cL_law 254 = .ok (.iload 4, 2) := by decide +kernel
theorem dL_law_256 : decode cL_law 256 = .ok (.iconst 4, 1) := by decide +kernel
theorem dL_law_257 : decode cL_law 257 = .ok (.iadd, 1) := by decide +kernel
theorem dL_law_258 : decode cL_law 258 = .ok (.iaload, 1) := by decide +kernel
theorem dL_law_259 : decode cL_law 259 = .ok (.aload_n 0, 1) := by decide +kernel
theorem dL_law_260 : decode cL_law 260 = .ok (.iload 4, 2) := by decide +kernel
theorem dL_law_262 : decode cL_law 262 = .ok (.iconst 5, 1) := by decide +kernel
theorem dL_law_263 : decode cL_law 263 = .ok (.iadd, 1) := by decide +kernel
theorem dL_law_264 : decode cL_law 264 = .ok (.iaload, 1) := by decide +kernel
theorem dL_law_265 : decode cL_law 265 = .ok (.invokevirtual 105, 3) := by decide +kernel
theorem dL_law_268 : decode cL_law 268 = .ok (.if_icmp .eq 2008, 3) := by decide +kernel
theorem dL_law_271 : decode cL_law 271 = .ok (.iconst 0, 1) := by decide +kernel
theorem dL_law_272 : decode cL_law 272 = .ok (.ireturn, 1) := by decide +kernel
theorem dL_law_273 : decode cL_law 273 = .ok (.aload_n 1, 1) := by decide +kernel
theorem dL_law_274 : decode cL_law 274 = .ok (.aload_n 0, 1) := by decide +kernel
theorem dL_law_275 : decode cL_law 275 = .ok (.iload 4, 2) := by decide +kernel
theorem dL_law_277 : decode cL_law 277 = .ok (.iconst 1, 1) := by decide +kernel
theorem dL_law_278 : decode cL_law 278 = .ok (.iadd, 1) := by decide +kernel
theorem dL_law_279 : decode cL_law 279 = .ok (.iaload, 1) := by decide +kernel
theorem dL_law_280 : decode cL_law 280 = .ok (.aload_n 3, 1) := by decide +kernel
theorem dL_law_281 : decode cL_law 281 = .ok (.invokestatic 106, 3) := by decide +kernel
theorem dL_law_284 : decode cL_law 284 = .ok (.istore 5, 2) := by decide +kernel
theorem dL_law_286 : decode cL_law 286 = .ok (.aload_n 2, 1) := by decide +kernel
theorem dL_law_287 : decode cL_law 287 = .ok (.aload_n 0, 1) := by decide +kernel
theorem dL_law_288 : decode cL_law 288 = .ok (.iload 4, 2) := by decide +kernel
theorem dL_law_290 : decode cL_law 290 = .ok (.iconst 1, 1) := by decide +kernel
theorem dL_law_291 : decode cL_law 291 = .ok (.iadd, 1) := by decide +kernel
theorem dL_law_292 : decode cL_law 292 = .ok (.iaload, 1) := by decide +kernel
theorem dL_law_293 : decode cL_law 293 = .ok (.invokevirtual 111, 3) := by decide +kernel
theorem dL_law_296 : decode cL_law 296 = .ok (.istore 6, 2) := by decide +kernel
theorem dL_law_298 : decode cL_law 298 = .ok (.aload_n 2, 1) := by decide +kernel
theorem dL_law_299 : decode cL_law 299 = .ok (.invokevirtual 112, 3) := by decide +kernel
theorem dL_law_302 : decode cL_law 302 = .ok (.iload 5, 2) := by decide +kernel
theorem dL_law_304 : decode cL_law 304 = .ok (.if_icmp .eq 5, 3) := by decide +kernel
theorem dL_law_307 : decode cL_law 307 = .ok (.iconst 0, 1) := by decide +kernel
theorem dL_law_308 : decode cL_law 308 = .ok (.ireturn, 1) := by decide +kernel
theorem dL_law_309 : decode cL_law 309 = .ok (.iload 5, 2) := by decide +kernel
theorem dL_law_311 : decode cL_law 311 = .ok (.ifCond .ne 15, 3) := by decide +kernel
theorem dL_law_314 : decode cL_law 314 = .ok (.aload_n 3, 1) := by decide +kernel
theorem dL_law_315 : decode cL_law 315 = .ok (.iconst 0, 1) := by decide +kernel
theorem dL_law_316 : decode cL_law 316 = .ok (.laload, 1) := by decide +kernel
theorem dL_law_317 : decode cL_law 317 = .ok (.iload 6, 2) := by decide +kernel
theorem dL_law_319 : decode cL_law 319 = .ok (.i2l, 1) := by decide +kernel
theorem dL_law_320 : decode cL_law 320 = .ok (.lcmp, 1) := by decide +kernel
theorem dL_law_321 : decode cL_law 321 = .ok (.ifCond .eq 5, 3) := by decide +kernel
theorem dL_law_324 : decode cL_law 324 = .ok (.iconst 0, 1) := by decide +kernel
theorem dL_law_325 : decode cL_law 325 = .ok (.ireturn, 1) := by decide +kernel
theorem dL_law_326 : decode cL_law 326 = .ok (.goto 1950, 3) := by decide +kernel
theorem dL_law_329 : decode cL_law 329 = .ok (.aload_n 1, 1) := by decide +kernel
theorem dL_law_330 : decode cL_law 330 = .ok (.invokevirtual 116, 3) := by decide +kernel
theorem dL_law_333 : decode cL_law 333 = .ok (.aload_n 2, 1) := by decide +kernel
theorem dL_law_334 : decode cL_law 334 = .ok (.invokevirtual 119, 3) := by decide +kernel
theorem dL_law_337 : decode cL_law 337 = .ok (.if_icmp .eq 1939, 3) := by decide +kernel
theorem dL_law_340 : decode cL_law 340 = .ok (.iconst 0, 1) := by decide +kernel
theorem dL_law_341 : decode cL_law 341 = .ok (.ireturn, 1) := by decide +kernel
theorem dL_law_342 : decode cL_law 342 = .ok (.aload_n 1, 1) := by decide +kernel
theorem dL_law_343 : decode cL_law 343 = .ok (.aload_n 0, 1) := by decide +kernel
theorem dL_law_344 : decode cL_law 344 = .ok (.iload 4, 2) := by decide +kernel
theorem dL_law_346 : decode cL_law 346 = .ok (.iconst 1, 1) := by decide +kernel
theorem dL_law_347 : decode cL_law 347 = .ok (.iadd, 1) := by decide +kernel
theorem dL_law_348 : decode cL_law 348 = .ok (.iaload, 1) := by decide +kernel
theorem dL_law_349 : decode cL_law 349 = .ok (.aload_n 3, 1) := by decide +kernel
theorem dL_law_350 : decode cL_law 350 = .ok (.invokestatic 120, 3) := by decide +kernel
theorem dL_law_353 : decode cL_law 353 = .ok (.istore 5, 2) := by decide +kernel
theorem dL_law_355 : decode cL_law 355 = .ok (.aload_n 2, 1) := by decide +kernel
theorem dL_law_356 : decode cL_law 356 = .ok (.aload_n 0, 1) := by decide +kernel
theorem dL_law_357 : decode cL_law 357 = .ok (.iload 4, 2) := by decide +kernel
theorem dL_law_359 : decode cL_law 359 = .ok (.iconst 1, 1) := by decide +kernel
theorem dL_law_360 : decode cL_law 360 = .ok (.iadd, 1) := by decide +kernel
theorem dL_law_361 : decode cL_law 361 = .ok (.iaload, 1) := by decide +kernel
theorem dL_law_362 : decode cL_law 362 = .ok (.invokevirtual 122, 3) := by decide +kernel
theorem dL_law_365 : decode cL_law 365 = .ok (.istore 6, 2) := by decide +kernel
theorem dL_law_367 : decode cL_law 367 = .ok (.aload_n 2, 1) := by decide +kernel
theorem dL_law_368 : decode cL_law 368 = .ok (.invokevirtual 112, 3) := by decide +kernel
theorem dL_law_371 : decode cL_law 371 = .ok (.iload 5, 2) := by decide +kernel
theorem dL_law_373 : decode cL_law 373 = .ok (.if_icmp .eq 5, 3) := by decide +kernel
theorem dL_law_376 : decode cL_law 376 = .ok (.iconst 0, 1) := by decide +kernel
theorem dL_law_377 : decode cL_law 377 = .ok (.ireturn, 1) := by decide +kernel
theorem dL_law_378 : decode cL_law 378 = .ok (.iload 5, 2) := by decide +kernel
theorem dL_law_380 : decode cL_law 380 = .ok (.ifCond .ne 15, 3) := by decide +kernel
theorem dL_law_383 : decode cL_law 383 = .ok (.aload_n 3, 1) := by decide +kernel
theorem dL_law_384 : decode cL_law 384 = .ok (.iconst 0, 1) := by decide +kernel
theorem dL_law_385 : decode cL_law 385 = .ok (.laload, 1) := by decide +kernel
theorem dL_law_386 : decode cL_law 386 = .ok (.iload 6, 2) := by decide +kernel
theorem dL_law_388 : decode cL_law 388 = .ok (.i2l, 1) := by decide +kernel
theorem dL_law_389 : decode cL_law 389 = .ok (.lcmp, 1) := by decide +kernel
theorem dL_law_390 : decode cL_law 390 = .ok (.ifCond .eq 5, 3) := by decide +kernel
theorem dL_law_393 : decode cL_law 393 = .ok (.iconst 0, 1) := by decide +kernel
theorem dL_law_394 : decode cL_law 394 = .ok (.ireturn, 1) := by decide +kernel
theorem dL_law_395 : decode cL_law 395 = .ok (.goto 1881, 3) := by decide +kernel
theorem dL_law_398 : decode cL_law 398 = .ok (.aload_n 1, 1) := by decide +kernel
theorem dL_law_399 : decode cL_law 399 = .ok (.aload_n 0, 1) := by decide +kernel
theorem dL_law_400 : decode cL_law 400 = .ok (.iload 4, 2) := by decide +kernel
theorem dL_law_402 : decode cL_law 402 = .ok (.iconst 1, 1) := by decide +kernel
theorem dL_law_403 : decode cL_law 403 = .ok (.iadd, 1) := by decide +kernel
theorem dL_law_404 : decode cL_law 404 = .ok (.iaload, 1) := by decide +kernel
theorem dL_law_405 : decode cL_law 405 = .ok (.aload_n 0, 1) := by decide +kernel
theorem dL_law_406 : decode cL_law 406 = .ok (.iload 4, 2) := by decide +kernel
theorem dL_law_408 : decode cL_law 408 = .ok (.iconst 2, 1) := by decide +kernel
theorem dL_law_409 : decode cL_law 409 = .ok (.iadd, 1) := by decide +kernel
theorem dL_law_410 : decode cL_law 410 = .ok (.iaload, 1) := by decide +kernel
theorem dL_law_411 : decode cL_law 411 = .ok (.aload_n 3, 1) := by decide +kernel
theorem dL_law_412 : decode cL_law 412 = .ok (.invokestatic 123, 3) := by decide +kernel
theorem dL_law_415 : decode cL_law 415 = .ok (.istore 5, 2) := by decide +kernel
theorem dL_law_417 : decode cL_law 417 = .ok (.aload_n 2, 1) := by decide +kernel
theorem dL_law_418 : decode cL_law 418 = .ok (.aload_n 0, 1) := by decide +kernel
theorem dL_law_419 : decode cL_law 419 = .ok (.iload 4, 2) := by decide +kernel
theorem dL_law_421 : decode cL_law 421 = .ok (.iconst 1, 1) := by decide +kernel
theorem dL_law_422 : decode cL_law 422 = .ok (.iadd, 1) := by decide +kernel
theorem dL_law_423 : decode cL_law 423 = .ok (.iaload, 1) := by decide +kernel
theorem dL_law_424 : decode cL_law 424 = .ok (.aload_n 0, 1) := by decide +kernel
theorem dL_law_425 : decode cL_law 425 = .ok (.iload 4, 2) := by decide +kernel
theorem dL_law_427 : decode cL_law 427 = .ok (.iconst 2, 1) := by decide +kernel
theorem dL_law_428 : decode cL_law 428 = .ok (.iadd, 1) := by decide +kernel
theorem dL_law_429 : decode cL_law 429 = .ok (.iaload, 1) := by decide +kernel
theorem dL_law_430 : decode cL_law 430 = .ok (.invokevirtual 126, 3) := by decide +kernel
theorem dL_law_433 : decode cL_law 433 = .ok (.istore 6, 2) := by decide +kernel
theorem dL_law_435 : decode cL_law 435 = .ok (.aload_n 2, 1) := by decide +kernel
theorem dL_law_436 : decode cL_law 436 = .ok (.invokevirtual 112, 3) := by decide +kernel
theorem dL_law_439 : decode cL_law 439 = .ok (.iload 5, 2) := by decide +kernel
theorem dL_law_441 : decode cL_law 441 = .ok (.if_icmp .eq 5, 3) := by decide +kernel
theorem dL_law_444 : decode cL_law 444 = .ok (.iconst 0, 1) := by decide +kernel
theorem dL_law_445 : decode cL_law 445 = .ok (.ireturn, 1) := by decide +kernel
theorem dL_law_446 : decode cL_law 446 = .ok (.iload 5, 2) := by decide +kernel
theorem dL_law_448 : decode cL_law 448 = .ok (.ifCond .ne 15, 3) := by decide +kernel
theorem dL_law_451 : decode cL_law 451 = .ok (.aload_n 3, 1) := by decide +kernel
theorem dL_law_452 : decode cL_law 452 = .ok (.iconst 0, 1) := by decide +kernel
theorem dL_law_453 : decode cL_law 453 = .ok (.laload, 1) := by decide +kernel
theorem dL_law_454 : decode cL_law 454 = .ok (.iload 6, 2) := by decide +kernel
theorem dL_law_456 : decode cL_law 456 = .ok (.i2l, 1) := by decide +kernel
theorem dL_law_457 : decode cL_law 457 = .ok (.lcmp, 1) := by decide +kernel
theorem dL_law_458 : decode cL_law 458 = .ok (.ifCond .eq 5, 3) := by decide +kernel
theorem dL_law_461 : decode cL_law 461 = .ok (.iconst 0, 1) := by decide +kernel
theorem dL_law_462 : decode cL_law 462 = .ok (.ireturn, 1) := by decide +kernel
theorem dL_law_463 : decode cL_law 463 = .ok (.goto 1813, 3) := by decide +kernel
theorem dL_law_466 : decode cL_law 466 = .ok (.aload_n 1, 1) := by decide +kernel
theorem dL_law_467 : decode cL_law 467 = .ok (.aload_n 0, 1) := by decide +kernel
theorem dL_law_468 : decode cL_law 468 = .ok (.iload 4, 2) := by decide +kernel
theorem dL_law_470 : decode cL_law 470 = .ok (.iconst 1, 1) := by decide +kernel
theorem dL_law_471 : decode cL_law 471 = .ok (.iadd, 1) := by decide +kernel
theorem dL_law_472 : decode cL_law 472 = .ok (.iaload, 1) := by decide +kernel
theorem dL_law_473 : decode cL_law 473 = .ok (.aload_n 0, 1) := by decide +kernel
theorem dL_law_474 : decode cL_law 474 = .ok (.iload 4, 2) := by decide +kernel
theorem dL_law_476 : decode cL_law 476 = .ok (.iconst 2, 1) := by decide +kernel
theorem dL_law_477 : decode cL_law 477 = .ok (.iadd, 1) := by decide +kernel
theorem dL_law_478 : decode cL_law 478 = .ok (.iaload, 1) := by decide +kernel
theorem dL_law_479 : decode cL_law 479 = .ok (.aload_n 3, 1) := by decide +kernel
theorem dL_law_480 : decode cL_law 480 = .ok (.invokestatic 127, 3) := by decide +kernel
theorem dL_law_483 : decode cL_law 483 = .ok (.istore 5, 2) := by decide +kernel
theorem dL_law_485 : decode cL_law 485 = .ok (.aload_n 2, 1) := by decide +kernel
theorem dL_law_486 : decode cL_law 486 = .ok (.aload_n 0, 1) := by decide +kernel
theorem dL_law_487 : decode cL_law 487 = .ok (.iload 4, 2) := by decide +kernel
theorem dL_law_489 : decode cL_law 489 = .ok (.iconst 1, 1) := by decide +kernel
theorem dL_law_490 : decode cL_law 490 = .ok (.iadd, 1) := by decide +kernel
theorem dL_law_491 : decode cL_law 491 = .ok (.iaload, 1) := by decide +kernel
theorem dL_law_492 : decode cL_law 492 = .ok (.aload_n 0, 1) := by decide +kernel
theorem dL_law_493 : decode cL_law 493 = .ok (.iload 4, 2) := by decide +kernel
theorem dL_law_495 : decode cL_law 495 = .ok (.iconst 2, 1) := by decide +kernel
theorem dL_law_496 : decode cL_law 496 = .ok (.iadd, 1) := by decide +kernel
theorem dL_law_497 : decode cL_law 497 = .ok (.iaload, 1) := by decide +kernel
theorem dL_law_498 : decode cL_law 498 = .ok (.invokevirtual 129, 3) := by decide +kernel
theorem dL_law_501 : decode cL_law 501 = .ok (.istore 6, 2) := by decide +kernel
theorem dL_law_503 : decode cL_law 503 = .ok (.aload_n 2, 1) := by decide +kernel
theorem dL_law_504 : decode cL_law 504 = .ok (.invokevirtual 112, 3) := by decide +kernel
theorem dL_law_507 : decode cL_law 507 = .ok (.iload 5, 2) := by decide +kernel
theorem dL_law_509 : decode cL_law 509 = .ok (.if_icmp .eq 5, 3) := by decide +kernel
theorem dL_law_512 : decode cL_law 512 = .ok (.iconst 0, 1) := by decide +kernel
theorem dL_law_513 : decode cL_law 513 = .ok (.ireturn, 1) := by decide +kernel
theorem dL_law_514 : decode cL_law 514 = .ok (.iload 5, 2) := by decide +kernel
theorem dL_law_516 : decode cL_law 516 = .ok (.ifCond .ne 15, 3) := by decide +kernel
theorem dL_law_519 : decode cL_law 519 = .ok (.aload_n 3, 1) := by decide +kernel
theorem dL_law_520 : decode cL_law 520 = .ok (.iconst 0, 1) := by decide +kernel
theorem dL_law_521 : decode cL_law 521 = .ok (.laload, 1) := by decide +kernel
theorem dL_law_522 : decode cL_law 522 = .ok (.iload 6, 2) := by decide +kernel
theorem dL_law_524 : decode cL_law 524 = .ok (.i2l, 1) := by decide +kernel
theorem dL_law_525 : decode cL_law 525 = .ok (.lcmp, 1) := by decide +kernel
theorem dL_law_526 : decode cL_law 526 = .ok (.ifCond .eq 5, 3) := by decide +kernel
theorem dL_law_529 : decode cL_law 529 = .ok (.iconst 0, 1) := by decide +kernel
theorem dL_law_530 : decode cL_law 530 = .ok (.ireturn, 1) := by decide +kernel
theorem dL_law_531 : decode cL_law 531 = .ok (.goto 1745, 3) := by decide +kernel
theorem dL_law_534 : decode cL_law 534 = .ok (.aload_n 1, 1) := by decide +kernel
theorem dL_law_535 : decode cL_law 535 = .ok (.aload_n 0, 1) := by decide +kernel
theorem dL_law_536 : decode cL_law 536 = .ok (.iload 4, 2) := by decide +kernel
theorem dL_law_538 : decode cL_law 538 = .ok (.iconst 1, 1) := by decide +kernel
theorem dL_law_539 : decode cL_law 539 = .ok (.iadd, 1) := by decide +kernel
theorem dL_law_540 : decode cL_law 540 = .ok (.iaload, 1) := by decide +kernel
theorem dL_law_541 : decode cL_law 541 = .ok (.aload_n 0, 1) := by decide +kernel
theorem dL_law_542 : decode cL_law 542 = .ok (.iload 4, 2) := by decide +kernel
theorem dL_law_544 : decode cL_law 544 = .ok (.iconst 2, 1) := by decide +kernel
theorem dL_law_545 : decode cL_law 545 = .ok (.iadd, 1) := by decide +kernel
theorem dL_law_546 : decode cL_law 546 = .ok (.iaload, 1) := by decide +kernel
theorem dL_law_547 : decode cL_law 547 = .ok (.aload_n 3, 1) := by decide +kernel
theorem dL_law_548 : decode cL_law 548 = .ok (.invokestatic 130, 3) := by decide +kernel
theorem dL_law_551 : decode cL_law 551 = .ok (.istore 5, 2) := by decide +kernel
theorem dL_law_553 : decode cL_law 553 = .ok (.aload_n 2, 1) := by decide +kernel
theorem dL_law_554 : decode cL_law 554 = .ok (.aload_n 0, 1) := by decide +kernel
theorem dL_law_555 : decode cL_law 555 = .ok (.iload 4, 2) := by decide +kernel
theorem dL_law_557 : decode cL_law 557 = .ok (.iconst 1, 1) := by decide +kernel
theorem dL_law_558 : decode cL_law 558 = .ok (.iadd, 1) := by decide +kernel
theorem dL_law_559 : decode cL_law 559 = .ok (.iaload, 1) := by decide +kernel
theorem dL_law_560 : decode cL_law 560 = .ok (.aload_n 0, 1) := by decide +kernel
theorem dL_law_561 : decode cL_law 561 = .ok (.iload 4, 2) := by decide +kernel
theorem dL_law_563 : decode cL_law 563 = .ok (.iconst 2, 1) := by decide +kernel
theorem dL_law_564 : decode cL_law 564 = .ok (.iadd, 1) := by decide +kernel
theorem dL_law_565 : decode cL_law 565 = .ok (.iaload, 1) := by decide +kernel
theorem dL_law_566 : decode cL_law 566 = .ok (.invokevirtual 132, 3) := by decide +kernel
theorem dL_law_569 : decode cL_law 569 = .ok (.istore 6, 2) := by decide +kernel
theorem dL_law_571 : decode cL_law 571 = .ok (.aload_n 2, 1) := by decide +kernel
theorem dL_law_572 : decode cL_law 572 = .ok (.invokevirtual 112, 3) := by decide +kernel
theorem dL_law_575 : decode cL_law 575 = .ok (.iload 5, 2) := by decide +kernel
theorem dL_law_577 : decode cL_law 577 = .ok (.if_icmp .eq 5, 3) := by decide +kernel
theorem dL_law_580 : decode cL_law 580 = .ok (.iconst 0, 1) := by decide +kernel
theorem dL_law_581 : decode cL_law 581 = .ok (.ireturn, 1) := by decide +kernel
theorem dL_law_582 : decode cL_law 582 = .ok (.iload 5, 2) := by decide +kernel
theorem dL_law_584 : decode cL_law 584 = .ok (.ifCond .ne 15, 3) := by decide +kernel
theorem dL_law_587 : decode cL_law 587 = .ok (.aload_n 3, 1) := by decide +kernel
theorem dL_law_588 : decode cL_law 588 = .ok (.iconst 0, 1) := by decide +kernel
theorem dL_law_589 : decode cL_law 589 = .ok (.laload, 1) := by decide +kernel
theorem dL_law_590 : decode cL_law 590 = .ok (.iload 6, 2) := by decide +kernel
theorem dL_law_592 : decode cL_law 592 = .ok (.i2l, 1) := by decide +kernel
theorem dL_law_593 : decode cL_law 593 = .ok (.lcmp, 1) := by decide +kernel
theorem dL_law_594 : decode cL_law 594 = .ok (.ifCond .eq 5, 3) := by decide +kernel
theorem dL_law_597 : decode cL_law 597 = .ok (.iconst 0, 1) := by decide +kernel
theorem dL_law_598 : decode cL_law 598 = .ok (.ireturn, 1) := by decide +kernel
theorem dL_law_599 : decode cL_law 599 = .ok (.goto 1677, 3) := by decide +kernel
theorem dL_law_602 : decode cL_law 602 = .ok (.aload_n 1, 1) := by decide +kernel
theorem dL_law_603 : decode cL_law 603 = .ok (.aload_n 0, 1) := by decide +kernel
theorem dL_law_604 : decode cL_law 604 = .ok (.iload 4, 2) := by decide +kernel
theorem dL_law_606 : decode cL_law 606 = .ok (.iconst 1, 1) := by decide +kernel
theorem dL_law_607 : decode cL_law 607 = .ok (.iadd, 1) := by decide +kernel
theorem dL_law_608 : decode cL_law 608 = .ok (.iaload, 1) := by decide +kernel
theorem dL_law_609 : decode cL_law 609 = .ok (.aload_n 0, 1) := by decide +kernel
theorem dL_law_610 : decode cL_law 610 = .ok (.iload 4, 2) := by decide +kernel
theorem dL_law_612 : decode cL_law 612 = .ok (.iconst 2, 1) := by decide +kernel
theorem dL_law_613 : decode cL_law 613 = .ok (.iadd, 1) := by decide +kernel
theorem dL_law_614 : decode cL_law 614 = .ok (.iaload, 1) := by decide +kernel
theorem dL_law_615 : decode cL_law 615 = .ok (.aload_n 3, 1) := by decide +kernel
theorem dL_law_616 : decode cL_law 616 = .ok (.invokestatic 133, 3) := by decide +kernel
theorem dL_law_619 : decode cL_law 619 = .ok (.istore 5, 2) := by decide +kernel
theorem dL_law_621 : decode cL_law 621 = .ok (.aload_n 2, 1) := by decide +kernel
theorem dL_law_622 : decode cL_law 622 = .ok (.aload_n 0, 1) := by decide +kernel
theorem dL_law_623 : decode cL_law 623 = .ok (.iload 4, 2) := by decide +kernel
theorem dL_law_625 : decode cL_law 625 = .ok (.iconst 1, 1) := by decide +kernel
theorem dL_law_626 : decode cL_law 626 = .ok (.iadd, 1) := by decide +kernel
theorem dL_law_627 : decode cL_law 627 = .ok (.iaload, 1) := by decide +kernel
theorem dL_law_628 : decode cL_law 628 = .ok (.aload_n 0, 1) := by decide +kernel
theorem dL_law_629 : decode cL_law 629 = .ok (.iload 4, 2) := by decide +kernel
theorem dL_law_631 : decode cL_law 631 = .ok (.iconst 2, 1) := by decide +kernel
theorem dL_law_632 : decode cL_law 632 = .ok (.iadd, 1) := by decide +kernel
theorem dL_law_633 : decode cL_law 633 = .ok (.iaload, 1) := by decide +kernel
theorem dL_law_634 : decode cL_law 634 = .ok (.invokevirtual 135, 3) := by decide +kernel
theorem dL_law_637 : decode cL_law 637 = .ok (.istore 6, 2) := by decide +kernel
theorem dL_law_639 : decode cL_law 639 = .ok (.aload_n 2, 1) := by decide +kernel
theorem dL_law_640 : decode cL_law 640 = .ok (.invokevirtual 112, 3) := by decide +kernel
theorem dL_law_643 : decode cL_law 643 = .ok (.iload 5, 2) := by decide +kernel
theorem dL_law_645 : decode cL_law 645 = .ok (.if_icmp .eq 5, 3) := by decide +kernel
theorem dL_law_648 : decode cL_law 648 = .ok (.iconst 0, 1) := by decide +kernel
theorem dL_law_649 : decode cL_law 649 = .ok (.ireturn, 1) := by decide +kernel
theorem dL_law_650 : decode cL_law 650 = .ok (.iload 5, 2) := by decide +kernel
theorem dL_law_652 : decode cL_law 652 = .ok (.ifCond .ne 15, 3) := by decide +kernel
theorem dL_law_655 : decode cL_law 655 = .ok (.aload_n 3, 1) := by decide +kernel
theorem dL_law_656 : decode cL_law 656 = .ok (.iconst 0, 1) := by decide +kernel
theorem dL_law_657 : decode cL_law 657 = .ok (.laload, 1) := by decide +kernel
theorem dL_law_658 : decode cL_law 658 = .ok (.iload 6, 2) := by decide +kernel
theorem dL_law_660 : decode cL_law 660 = .ok (.i2l, 1) := by decide +kernel
theorem dL_law_661 : decode cL_law 661 = .ok (.lcmp, 1) := by decide +kernel
theorem dL_law_662 : decode cL_law 662 = .ok (.ifCond .eq 5, 3) := by decide +kernel
theorem dL_law_665 : decode cL_law 665 = .ok (.iconst 0, 1) := by decide +kernel
theorem dL_law_666 : decode cL_law 666 = .ok (.ireturn, 1) := by decide +kernel
theorem dL_law_667 : decode cL_law 667 = .ok (.goto 1609, 3) := by decide +kernel
theorem dL_law_670 : decode cL_law 670 = .ok (.aload_n 1, 1) := by decide +kernel
theorem dL_law_671 : decode cL_law 671 = .ok (.aload_n 0, 1) := by decide +kernel
theorem dL_law_672 : decode cL_law 672 = .ok (.iload 4, 2) := by decide +kernel
theorem dL_law_674 : decode cL_law 674 = .ok (.iconst 1, 1) := by decide +kernel
theorem dL_law_675 : decode cL_law 675 = .ok (.iadd, 1) := by decide +kernel
theorem dL_law_676 : decode cL_law 676 = .ok (.iaload, 1) := by decide +kernel
theorem dL_law_677 : decode cL_law 677 = .ok (.aload_n 0, 1) := by decide +kernel
theorem dL_law_678 : decode cL_law 678 = .ok (.iload 4, 2) := by decide +kernel
theorem dL_law_680 : decode cL_law 680 = .ok (.iconst 2, 1) := by decide +kernel
theorem dL_law_681 : decode cL_law 681 = .ok (.iadd, 1) := by decide +kernel
theorem dL_law_682 : decode cL_law 682 = .ok (.iaload, 1) := by decide +kernel
theorem dL_law_683 : decode cL_law 683 = .ok (.aload_n 3, 1) := by decide +kernel
theorem dL_law_684 : decode cL_law 684 = .ok (.invokestatic 136, 3) := by decide +kernel
theorem dL_law_687 : decode cL_law 687 = .ok (.istore 5, 2) := by decide +kernel
theorem dL_law_689 : decode cL_law 689 = .ok (.aload_n 2, 1) := by decide +kernel
theorem dL_law_690 : decode cL_law 690 = .ok (.aload_n 0, 1) := by decide +kernel
theorem dL_law_691 : decode cL_law 691 = .ok (.iload 4, 2) := by decide +kernel
theorem dL_law_693 : decode cL_law 693 = .ok (.iconst 1, 1) := by decide +kernel
theorem dL_law_694 : decode cL_law 694 = .ok (.iadd, 1) := by decide +kernel
theorem dL_law_695 : decode cL_law 695 = .ok (.iaload, 1) := by decide +kernel
theorem dL_law_696 : decode cL_law 696 = .ok (.aload_n 0, 1) := by decide +kernel
theorem dL_law_697 : decode cL_law 697 = .ok (.iload 4, 2) := by decide +kernel
theorem dL_law_699 : decode cL_law 699 = .ok (.iconst 2, 1) := by decide +kernel
theorem dL_law_700 : decode cL_law 700 = .ok (.iadd, 1) := by decide +kernel
theorem dL_law_701 : decode cL_law 701 = .ok (.iaload, 1) := by decide +kernel
theorem dL_law_702 : decode cL_law 702 = .ok (.invokevirtual 138, 3) := by decide +kernel
theorem dL_law_705 : decode cL_law 705 = .ok (.istore 6, 2) := by decide +kernel
theorem dL_law_707 : decode cL_law 707 = .ok (.aload_n 2, 1) := by decide +kernel
theorem dL_law_708 : decode cL_law 708 = .ok (.invokevirtual 112, 3) := by decide +kernel
theorem dL_law_711 : decode cL_law 711 = .ok (.iload 5, 2) := by decide +kernel
theorem dL_law_713 : decode cL_law 713 = .ok (.if_icmp .eq 5, 3) := by decide +kernel
theorem dL_law_716 : decode cL_law 716 = .ok (.iconst 0, 1) := by decide +kernel
theorem dL_law_717 : decode cL_law 717 = .ok (.ireturn, 1) := by decide +kernel
theorem dL_law_718 : decode cL_law 718 = .ok (.iload 5, 2) := by decide +kernel
theorem dL_law_720 : decode cL_law 720 = .ok (.ifCond .ne 15, 3) := by decide +kernel
theorem dL_law_723 : decode cL_law 723 = .ok (.aload_n 3, 1) := by decide +kernel
theorem dL_law_724 : decode cL_law 724 = .ok (.iconst 0, 1) := by decide +kernel
theorem dL_law_725 : decode cL_law 725 = .ok (.laload, 1) := by decide +kernel
theorem dL_law_726 : decode cL_law 726 = .ok (.iload 6, 2) := by decide +kernel
theorem dL_law_728 : decode cL_law 728 = .ok (.i2l, 1) := by decide +kernel
theorem dL_law_729 : decode cL_law 729 = .ok (.lcmp, 1) := by decide +kernel
theorem dL_law_730 : decode cL_law 730 = .ok (.ifCond .eq 5, 3) := by decide +kernel
theorem dL_law_733 : decode cL_law 733 = .ok (.iconst 0, 1) := by decide +kernel
theorem dL_law_734 : decode cL_law 734 = .ok (.ireturn, 1) := by decide +kernel
theorem dL_law_735 : decode cL_law 735 = .ok (.goto 1541, 3) := by decide +kernel
theorem dL_law_738 : decode cL_law 738 = .ok (.aload_n 1, 1) := by decide +kernel
theorem dL_law_739 : decode cL_law 739 = .ok (.aload_n 0, 1) := by decide +kernel
theorem dL_law_740 : decode cL_law 740 = .ok (.iload 4, 2) := by decide +kernel
theorem dL_law_742 : decode cL_law 742 = .ok (.iconst 1, 1) := by decide +kernel
theorem dL_law_743 : decode cL_law 743 = .ok (.iadd, 1) := by decide +kernel
theorem dL_law_744 : decode cL_law 744 = .ok (.iaload, 1) := by decide +kernel
theorem dL_law_745 : decode cL_law 745 = .ok (.aload_n 3, 1) := by decide +kernel
theorem dL_law_746 : decode cL_law 746 = .ok (.invokestatic 139, 3) := by decide +kernel
theorem dL_law_749 : decode cL_law 749 = .ok (.istore 5, 2) := by decide +kernel
theorem dL_law_751 : decode cL_law 751 = .ok (.aload_n 2, 1) := by decide +kernel
theorem dL_law_752 : decode cL_law 752 = .ok (.aload_n 0, 1) := by decide +kernel
theorem dL_law_753 : decode cL_law 753 = .ok (.iload 4, 2) := by decide +kernel
theorem dL_law_755 : decode cL_law 755 = .ok (.iconst 1, 1) := by decide +kernel
theorem dL_law_756 : decode cL_law 756 = .ok (.iadd, 1) := by decide +kernel
theorem dL_law_757 : decode cL_law 757 = .ok (.iaload, 1) := by decide +kernel
theorem dL_law_758 : decode cL_law 758 = .ok (.invokevirtual 141, 3) := by decide +kernel
theorem dL_law_761 : decode cL_law 761 = .ok (.istore 6, 2) := by decide +kernel
theorem dL_law_763 : decode cL_law 763 = .ok (.aload_n 2, 1) := by decide +kernel
theorem dL_law_764 : decode cL_law 764 = .ok (.invokevirtual 112, 3) := by decide +kernel
theorem dL_law_767 : decode cL_law 767 = .ok (.iload 5, 2) := by decide +kernel
theorem dL_law_769 : decode cL_law 769 = .ok (.if_icmp .eq 5, 3) := by decide +kernel
theorem dL_law_772 : decode cL_law 772 = .ok (.iconst 0, 1) := by decide +kernel
theorem dL_law_773 : decode cL_law 773 = .ok (.ireturn, 1) := by decide +kernel
theorem dL_law_774 : decode cL_law 774 = .ok (.iload 5, 2) := by decide +kernel
theorem dL_law_776 : decode cL_law 776 = .ok (.ifCond .ne 15, 3) := by decide +kernel
theorem dL_law_779 : decode cL_law 779 = .ok (.aload_n 3, 1) := by decide +kernel
theorem dL_law_780 : decode cL_law 780 = .ok (.iconst 0, 1) := by decide +kernel
theorem dL_law_781 : decode cL_law 781 = .ok (.laload, 1) := by decide +kernel
theorem dL_law_782 : decode cL_law 782 = .ok (.iload 6, 2) := by decide +kernel
theorem dL_law_784 : decode cL_law 784 = .ok (.i2l, 1) := by decide +kernel
theorem dL_law_785 : decode cL_law 785 = .ok (.lcmp, 1) := by decide +kernel
theorem dL_law_786 : decode cL_law 786 = .ok (.ifCond .eq 5, 3) := by decide +kernel
theorem dL_law_789 : decode cL_law 789 = .ok (.iconst 0, 1) := by decide +kernel
theorem dL_law_790 : decode cL_law 790 = .ok (.ireturn, 1) := by decide +kernel
theorem dL_law_791 : decode cL_law 791 = .ok (.goto 1485, 3) := by decide +kernel
theorem dL_law_794 : decode cL_law 794 = .ok (.aload_n 1, 1) := by decide +kernel
theorem dL_law_795 : decode cL_law 795 = .ok (.aload_n 0, 1) := by decide +kernel
theorem dL_law_796 : decode cL_law 796 = .ok (.iload 4, 2) := by decide +kernel
theorem dL_law_798 : decode cL_law 798 = .ok (.iconst 1, 1) := by decide +kernel
theorem dL_law_799 : decode cL_law 799 = .ok (.iadd, 1) := by decide +kernel
theorem dL_law_800 : decode cL_law 800 = .ok (.iaload, 1) := by decide +kernel
theorem dL_law_801 : decode cL_law 801 = .ok (.aload_n 0, 1) := by decide +kernel
theorem dL_law_802 : decode cL_law 802 = .ok (.iload 4, 2) := by decide +kernel
theorem dL_law_804 : decode cL_law 804 = .ok (.iconst 2, 1) := by decide +kernel
theorem dL_law_805 : decode cL_law 805 = .ok (.iadd, 1) := by decide +kernel
theorem dL_law_806 : decode cL_law 806 = .ok (.iaload, 1) := by decide +kernel
theorem dL_law_807 : decode cL_law 807 = .ok (.aload_n 3, 1) := by decide +kernel
theorem dL_law_808 : decode cL_law 808 = .ok (.invokestatic 142, 3) := by decide +kernel
theorem dL_law_811 : decode cL_law 811 = .ok (.istore 5, 2) := by decide +kernel
theorem dL_law_813 : decode cL_law 813 = .ok (.aload_n 2, 1) := by decide +kernel
theorem dL_law_814 : decode cL_law 814 = .ok (.aload_n 0, 1) := by decide +kernel
theorem dL_law_815 : decode cL_law 815 = .ok (.iload 4, 2) := by decide +kernel
theorem dL_law_817 : decode cL_law 817 = .ok (.iconst 1, 1) := by decide +kernel
theorem dL_law_818 : decode cL_law 818 = .ok (.iadd, 1) := by decide +kernel
theorem dL_law_819 : decode cL_law 819 = .ok (.iaload, 1) := by decide +kernel
theorem dL_law_820 : decode cL_law 820 = .ok (.aload_n 0, 1) := by decide +kernel
theorem dL_law_821 : decode cL_law 821 = .ok (.iload 4, 2) := by decide +kernel
theorem dL_law_823 : decode cL_law 823 = .ok (.iconst 2, 1) := by decide +kernel
theorem dL_law_824 : decode cL_law 824 = .ok (.iadd, 1) := by decide +kernel
theorem dL_law_825 : decode cL_law 825 = .ok (.iaload, 1) := by decide +kernel
theorem dL_law_826 : decode cL_law 826 = .ok (.invokevirtual 144, 3) := by decide +kernel
theorem dL_law_829 : decode cL_law 829 = .ok (.istore 6, 2) := by decide +kernel
theorem dL_law_831 : decode cL_law 831 = .ok (.aload_n 2, 1) := by decide +kernel
theorem dL_law_832 : decode cL_law 832 = .ok (.invokevirtual 112, 3) := by decide +kernel
theorem dL_law_835 : decode cL_law 835 = .ok (.iload 5, 2) := by decide +kernel
theorem dL_law_837 : decode cL_law 837 = .ok (.if_icmp .eq 5, 3) := by decide +kernel
theorem dL_law_840 : decode cL_law 840 = .ok (.iconst 0, 1) := by decide +kernel
theorem dL_law_841 : decode cL_law 841 = .ok (.ireturn, 1) := by decide +kernel
theorem dL_law_842 : decode cL_law 842 = .ok (.iload 5, 2) := by decide +kernel
theorem dL_law_844 : decode cL_law 844 = .ok (.ifCond .ne 22, 3) := by decide +kernel
theorem dL_law_847 : decode cL_law 847 = .ok (.aload_n 3, 1) := by decide +kernel
theorem dL_law_848 : decode cL_law 848 = .ok (.iconst 0, 1) := by decide +kernel
theorem dL_law_849 : decode cL_law 849 = .ok (.laload, 1) := by decide +kernel
theorem dL_law_850 : decode cL_law 850 = .ok (.iload 6, 2) := by decide +kernel
theorem dL_law_852 : decode cL_law 852 = .ok (.ifCond .eq 7, 3) := by decide +kernel
theorem dL_law_855 : decode cL_law 855 = .ok (.lconst 1, 1) := by decide +kernel
theorem dL_law_856 : decode cL_law 856 = .ok (.goto 4, 3) := by decide +kernel
theorem dL_law_859 : decode cL_law 859 = .ok (.lconst 0, 1) := by decide +kernel
theorem dL_law_860 : decode cL_law 860 = .ok (.lcmp, 1) := by decide +kernel
theorem dL_law_861 : decode cL_law 861 = .ok (.ifCond .eq 5, 3) := by decide +kernel
theorem dL_law_864 : decode cL_law 864 = .ok (.iconst 0, 1) := by decide +kernel
theorem dL_law_865 : decode cL_law 865 = .ok (.ireturn, 1) := by decide +kernel
theorem dL_law_866 : decode cL_law 866 = .ok (.goto 1410, 3) := by decide +kernel
theorem dL_law_869 : decode cL_law 869 = .ok (.aload_n 1, 1) := by decide +kernel
theorem dL_law_870 : decode cL_law 870 = .ok (.aload_n 0, 1) := by decide +kernel
theorem dL_law_871 : decode cL_law 871 = .ok (.iload 4, 2) := by decide +kernel
theorem dL_law_873 : decode cL_law 873 = .ok (.iconst 1, 1) := by decide +kernel
theorem dL_law_874 : decode cL_law 874 = .ok (.iadd, 1) := by decide +kernel
theorem dL_law_875 : decode cL_law 875 = .ok (.iaload, 1) := by decide +kernel
theorem dL_law_876 : decode cL_law 876 = .ok (.aload_n 0, 1) := by decide +kernel
theorem dL_law_877 : decode cL_law 877 = .ok (.iload 4, 2) := by decide +kernel
theorem dL_law_879 : decode cL_law 879 = .ok (.iconst 2, 1) := by decide +kernel
theorem dL_law_880 : decode cL_law 880 = .ok (.iadd, 1) := by decide +kernel
theorem dL_law_881 : decode cL_law 881 = .ok (.iaload, 1) := by decide +kernel
theorem dL_law_882 : decode cL_law 882 = .ok (.aload_n 0, 1) := by decide +kernel
theorem dL_law_883 : decode cL_law 883 = .ok (.iload 4, 2) := by decide +kernel
theorem dL_law_885 : decode cL_law 885 = .ok (.iconst 3, 1) := by decide +kernel
theorem dL_law_886 : decode cL_law 886 = .ok (.iadd, 1) := by decide +kernel
theorem dL_law_887 : decode cL_law 887 = .ok (.iaload, 1) := by decide +kernel
theorem dL_law_888 : decode cL_law 888 = .ok (.aload_n 3, 1) := by decide +kernel
theorem dL_law_889 : decode cL_law 889 = .ok (.invokestatic 145, 3) := by decide +kernel
theorem dL_law_892 : decode cL_law 892 = .ok (.istore 5, 2) := by decide +kernel
theorem dL_law_894 : decode cL_law 894 = .ok (.aload_n 2, 1) := by decide +kernel
theorem dL_law_895 : decode cL_law 895 = .ok (.aload_n 0, 1) := by decide +kernel
theorem dL_law_896 : decode cL_law 896 = .ok (.iload 4, 2) := by decide +kernel
theorem dL_law_898 : decode cL_law 898 = .ok (.iconst 1, 1) := by decide +kernel
theorem dL_law_899 : decode cL_law 899 = .ok (.iadd, 1) := by decide +kernel
theorem dL_law_900 : decode cL_law 900 = .ok (.iaload, 1) := by decide +kernel
theorem dL_law_901 : decode cL_law 901 = .ok (.aload_n 0, 1) := by decide +kernel
theorem dL_law_902 : decode cL_law 902 = .ok (.iload 4, 2) := by decide +kernel
theorem dL_law_904 : decode cL_law 904 = .ok (.iconst 2, 1) := by decide +kernel
theorem dL_law_905 : decode cL_law 905 = .ok (.iadd, 1) := by decide +kernel
theorem dL_law_906 : decode cL_law 906 = .ok (.iaload, 1) := by decide +kernel
theorem dL_law_907 : decode cL_law 907 = .ok (.aload_n 0, 1) := by decide +kernel
theorem dL_law_908 : decode cL_law 908 = .ok (.iload 4, 2) := by decide +kernel
theorem dL_law_910 : decode cL_law 910 = .ok (.iconst 3, 1) := by decide +kernel
theorem dL_law_911 : decode cL_law 911 = .ok (.iadd, 1) := by decide +kernel
theorem dL_law_912 : decode cL_law 912 = .ok (.iaload, 1) := by decide +kernel
theorem dL_law_913 : decode cL_law 913 = .ok (.invokevirtual 148, 3) := by decide +kernel
theorem dL_law_916 : decode cL_law 916 = .ok (.istore 6, 2) := by decide +kernel
theorem dL_law_918 : decode cL_law 918 = .ok (.aload_n 2, 1) := by decide +kernel
theorem dL_law_919 : decode cL_law 919 = .ok (.invokevirtual 112, 3) := by decide +kernel
theorem dL_law_922 : decode cL_law 922 = .ok (.iload 5, 2) := by decide +kernel
theorem dL_law_924 : decode cL_law 924 = .ok (.if_icmp .eq 5, 3) := by decide +kernel
theorem dL_law_927 : decode cL_law 927 = .ok (.iconst 0, 1) := by decide +kernel
theorem dL_law_928 : decode cL_law 928 = .ok (.ireturn, 1) := by decide +kernel
theorem dL_law_929 : decode cL_law 929 = .ok (.iload 5, 2) := by decide +kernel
theorem dL_law_931 : decode cL_law 931 = .ok (.ifCond .ne 22, 3) := by decide +kernel
theorem dL_law_934 : decode cL_law 934 = .ok (.aload_n 3, 1) := by decide +kernel
theorem dL_law_935 : decode cL_law 935 = .ok (.iconst 0, 1) := by decide +kernel
theorem dL_law_936 : decode cL_law 936 = .ok (.laload, 1) := by decide +kernel
theorem dL_law_937 : decode cL_law 937 = .ok (.iload 6, 2) := by decide +kernel
theorem dL_law_939 : decode cL_law 939 = .ok (.ifCond .eq 7, 3) := by decide +kernel
theorem dL_law_942 : decode cL_law 942 = .ok (.lconst 1, 1) := by decide +kernel
theorem dL_law_943 : decode cL_law 943 = .ok (.goto 4, 3) := by decide +kernel
theorem dL_law_946 : decode cL_law 946 = .ok (.lconst 0, 1) := by decide +kernel
theorem dL_law_947 : decode cL_law 947 = .ok (.lcmp, 1) := by decide +kernel
theorem dL_law_948 : decode cL_law 948 = .ok (.ifCond .eq 5, 3) := by decide +kernel
theorem dL_law_951 : decode cL_law 951 = .ok (.iconst 0, 1) := by decide +kernel
theorem dL_law_952 : decode cL_law 952 = .ok (.ireturn, 1) := by decide +kernel
theorem dL_law_953 : decode cL_law 953 = .ok (.goto 1323, 3) := by decide +kernel
theorem dL_law_956 : decode cL_law 956 = .ok (.aload_n 1, 1) := by decide +kernel
theorem dL_law_957 : decode cL_law 957 = .ok (.aload_n 0, 1) := by decide +kernel
theorem dL_law_958 : decode cL_law 958 = .ok (.iload 4, 2) := by decide +kernel
theorem dL_law_960 : decode cL_law 960 = .ok (.iconst 1, 1) := by decide +kernel
theorem dL_law_961 : decode cL_law 961 = .ok (.iadd, 1) := by decide +kernel
theorem dL_law_962 : decode cL_law 962 = .ok (.iaload, 1) := by decide +kernel
theorem dL_law_963 : decode cL_law 963 = .ok (.aload_n 0, 1) := by decide +kernel
theorem dL_law_964 : decode cL_law 964 = .ok (.iload 4, 2) := by decide +kernel
theorem dL_law_966 : decode cL_law 966 = .ok (.iconst 2, 1) := by decide +kernel
theorem dL_law_967 : decode cL_law 967 = .ok (.iadd, 1) := by decide +kernel
theorem dL_law_968 : decode cL_law 968 = .ok (.iaload, 1) := by decide +kernel
theorem dL_law_969 : decode cL_law 969 = .ok (.aload_n 0, 1) := by decide +kernel
theorem dL_law_970 : decode cL_law 970 = .ok (.iload 4, 2) := by decide +kernel
theorem dL_law_972 : decode cL_law 972 = .ok (.iconst 3, 1) := by decide +kernel
theorem dL_law_973 : decode cL_law 973 = .ok (.iadd, 1) := by decide +kernel
theorem dL_law_974 : decode cL_law 974 = .ok (.iaload, 1) := by decide +kernel
theorem dL_law_975 : decode cL_law 975 = .ok (.aload_n 0, 1) := by decide +kernel
theorem dL_law_976 : decode cL_law 976 = .ok (.iload 4, 2) := by decide +kernel
theorem dL_law_978 : decode cL_law 978 = .ok (.iconst 4, 1) := by decide +kernel
theorem dL_law_979 : decode cL_law 979 = .ok (.iadd, 1) := by decide +kernel
theorem dL_law_980 : decode cL_law 980 = .ok (.iaload, 1) := by decide +kernel
theorem dL_law_981 : decode cL_law 981 = .ok (.aload_n 3, 1) := by decide +kernel
theorem dL_law_982 : decode cL_law 982 = .ok (.invokestatic 149, 3) := by decide +kernel
theorem dL_law_985 : decode cL_law 985 = .ok (.istore 5, 2) := by decide +kernel
theorem dL_law_987 : decode cL_law 987 = .ok (.aload_n 2, 1) := by decide +kernel
theorem dL_law_988 : decode cL_law 988 = .ok (.aload_n 0, 1) := by decide +kernel
theorem dL_law_989 : decode cL_law 989 = .ok (.iload 4, 2) := by decide +kernel
theorem dL_law_991 : decode cL_law 991 = .ok (.iconst 1, 1) := by decide +kernel
theorem dL_law_992 : decode cL_law 992 = .ok (.iadd, 1) := by decide +kernel
theorem dL_law_993 : decode cL_law 993 = .ok (.iaload, 1) := by decide +kernel
theorem dL_law_994 : decode cL_law 994 = .ok (.aload_n 0, 1) := by decide +kernel
theorem dL_law_995 : decode cL_law 995 = .ok (.iload 4, 2) := by decide +kernel
theorem dL_law_997 : decode cL_law 997 = .ok (.iconst 2, 1) := by decide +kernel
theorem dL_law_998 : decode cL_law 998 = .ok (.iadd, 1) := by decide +kernel
theorem dL_law_999 : decode cL_law 999 = .ok (.iaload, 1) := by decide +kernel
theorem dL_law_1000 : decode cL_law 1000 = .ok (.aload_n 0, 1) := by decide +kernel
theorem dL_law_1001 : decode cL_law 1001 = .ok (.iload 4, 2) := by decide +kernel
theorem dL_law_1003 : decode cL_law 1003 = .ok (.iconst 3, 1) := by decide +kernel
theorem dL_law_1004 : decode cL_law 1004 = .ok (.iadd, 1) := by decide +kernel
theorem dL_law_1005 : decode cL_law 1005 = .ok (.iaload, 1) := by decide +kernel
theorem dL_law_1006 : decode cL_law 1006 = .ok (.aload_n 0, 1) := by decide +kernel
theorem dL_law_1007 : decode cL_law 1007 = .ok (.iload 4, 2) := by decide +kernel
theorem dL_law_1009 : decode cL_law 1009 = .ok (.iconst 4, 1) := by decide +kernel
theorem dL_law_1010 : decode cL_law 1010 = .ok (.iadd, 1) := by decide +kernel
theorem dL_law_1011 : decode cL_law 1011 = .ok (.iaload, 1) := by decide +kernel
theorem dL_law_1012 : decode cL_law 1012 = .ok (.invokevirtual 152, 3) := by decide +kernel
theorem dL_law_1015 : decode cL_law 1015 = .ok (.istore 6, 2) := by decide +kernel
theorem dL_law_1017 : decode cL_law 1017 = .ok (.aload_n 2, 1) := by decide +kernel
theorem dL_law_1018 : decode cL_law 1018 = .ok (.invokevirtual 112, 3) := by decide +kernel
theorem dL_law_1021 : decode cL_law 1021 = .ok (.iload 5, 2) := by decide +kernel
theorem dL_law_1023 : decode cL_law 1023 = .ok (.if_icmp .eq 5, 3) := by decide +kernel
theorem dL_law_1026 : decode cL_law 1026 = .ok (.iconst 0, 1) := by decide +kernel
theorem dL_law_1027 : decode cL_law 1027 = .ok (.ireturn, 1) := by decide +kernel
theorem dL_law_1028 : decode cL_law 1028 = .ok (.iload 5, 2) := by decide +kernel
theorem dL_law_1030 : decode cL_law 1030 = .ok (.ifCond .ne 15, 3) := by decide +kernel
theorem dL_law_1033 : decode cL_law 1033 = .ok (.aload_n 3, 1) := by decide +kernel
theorem dL_law_1034 : decode cL_law 1034 = .ok (.iconst 0, 1) := by decide +kernel
theorem dL_law_1035 : decode cL_law 1035 = .ok (.laload, 1) := by decide +kernel
theorem dL_law_1036 : decode cL_law 1036 = .ok (.iload 6, 2) := by decide +kernel
theorem dL_law_1038 : decode cL_law 1038 = .ok (.i2l, 1) := by decide +kernel
theorem dL_law_1039 : decode cL_law 1039 = .ok (.lcmp, 1) := by decide +kernel
theorem dL_law_1040 : decode cL_law 1040 = .ok (.ifCond .eq 5, 3) := by decide +kernel
theorem dL_law_1043 : decode cL_law 1043 = .ok (.iconst 0, 1) := by decide +kernel
theorem dL_law_1044 : decode cL_law 1044 = .ok (.ireturn, 1) := by decide +kernel
theorem dL_law_1045 : decode cL_law 1045 = .ok (.goto 1231, 3) := by decide +kernel
theorem dL_law_1048 : decode cL_law 1048 = .ok (.aload_n 1, 1) := by decide +kernel
theorem dL_law_1049 : decode cL_law 1049 = .ok (.aload_n 0, 1) := by decide +kernel
theorem dL_law_1050 : decode cL_law 1050 = .ok (.iload 4, 2) := by decide +kernel
theorem dL_law_1052 : decode cL_law 1052 = .ok (.iconst 1, 1) := by decide +kernel
theorem dL_law_1053 : decode cL_law 1053 = .ok (.iadd, 1) := by decide +kernel
theorem dL_law_1054 : decode cL_law 1054 = .ok (.iaload, 1) := by decide +kernel
theorem dL_law_1055 : decode cL_law 1055 = .ok (.aload_n 0, 1) := by decide +kernel
theorem dL_law_1056 : decode cL_law 1056 = .ok (.iload 4, 2) := by decide +kernel
theorem dL_law_1058 : decode cL_law 1058 = .ok (.iconst 2, 1) := by decide +kernel
theorem dL_law_1059 : decode cL_law 1059 = .ok (.iadd, 1) := by decide +kernel
theorem dL_law_1060 : decode cL_law 1060 = .ok (.iaload, 1) := by decide +kernel
theorem dL_law_1061 : decode cL_law 1061 = .ok (.aload_n 0, 1) := by decide +kernel
theorem dL_law_1062 : decode cL_law 1062 = .ok (.iload 4, 2) := by decide +kernel
theorem dL_law_1064 : decode cL_law 1064 = .ok (.iconst 3, 1) := by decide +kernel
theorem dL_law_1065 : decode cL_law 1065 = .ok (.iadd, 1) := by decide +kernel
theorem dL_law_1066 : decode cL_law 1066 = .ok (.iaload, 1) := by decide +kernel
theorem dL_law_1067 : decode cL_law 1067 = .ok (.aload_n 0, 1) := by decide +kernel
theorem dL_law_1068 : decode cL_law 1068 = .ok (.iload 4, 2) := by decide +kernel
theorem dL_law_1070 : decode cL_law 1070 = .ok (.iconst 4, 1) := by decide +kernel
theorem dL_law_1071 : decode cL_law 1071 = .ok (.iadd, 1) := by decide +kernel
theorem dL_law_1072 : decode cL_law 1072 = .ok (.iaload, 1) := by decide +kernel
theorem dL_law_1073 : decode cL_law 1073 = .ok (.aload_n 3, 1) := by decide +kernel
theorem dL_law_1074 : decode cL_law 1074 = .ok (.invokestatic 153, 3) := by decide +kernel
theorem dL_law_1077 : decode cL_law 1077 = .ok (.istore 5, 2) := by decide +kernel
theorem dL_law_1079 : decode cL_law 1079 = .ok (.aload_n 2, 1) := by decide +kernel
theorem dL_law_1080 : decode cL_law 1080 = .ok (.aload_n 0, 1) := by decide +kernel
theorem dL_law_1081 : decode cL_law 1081 = .ok (.iload 4, 2) := by decide +kernel
theorem dL_law_1083 : decode cL_law 1083 = .ok (.iconst 1, 1) := by decide +kernel
theorem dL_law_1084 : decode cL_law 1084 = .ok (.iadd, 1) := by decide +kernel
theorem dL_law_1085 : decode cL_law 1085 = .ok (.iaload, 1) := by decide +kernel
theorem dL_law_1086 : decode cL_law 1086 = .ok (.aload_n 0, 1) := by decide +kernel
theorem dL_law_1087 : decode cL_law 1087 = .ok (.iload 4, 2) := by decide +kernel
theorem dL_law_1089 : decode cL_law 1089 = .ok (.iconst 2, 1) := by decide +kernel
theorem dL_law_1090 : decode cL_law 1090 = .ok (.iadd, 1) := by decide +kernel
theorem dL_law_1091 : decode cL_law 1091 = .ok (.iaload, 1) := by decide +kernel
theorem dL_law_1092 : decode cL_law 1092 = .ok (.aload_n 0, 1) := by decide +kernel
theorem dL_law_1093 : decode cL_law 1093 = .ok (.iload 4, 2) := by decide +kernel
theorem dL_law_1095 : decode cL_law 1095 = .ok (.iconst 3, 1) := by decide +kernel
theorem dL_law_1096 : decode cL_law 1096 = .ok (.iadd, 1) := by decide +kernel
theorem dL_law_1097 : decode cL_law 1097 = .ok (.iaload, 1) := by decide +kernel
theorem dL_law_1098 : decode cL_law 1098 = .ok (.aload_n 0, 1) := by decide +kernel
theorem dL_law_1099 : decode cL_law 1099 = .ok (.iload 4, 2) := by decide +kernel
theorem dL_law_1101 : decode cL_law 1101 = .ok (.iconst 4, 1) := by decide +kernel
theorem dL_law_1102 : decode cL_law 1102 = .ok (.iadd, 1) := by decide +kernel
theorem dL_law_1103 : decode cL_law 1103 = .ok (.iaload, 1) := by decide +kernel
theorem dL_law_1104 : decode cL_law 1104 = .ok (.invokevirtual 155, 3) := by decide +kernel
theorem dL_law_1107 : decode cL_law 1107 = .ok (.istore 6, 2) := by decide +kernel
theorem dL_law_1109 : decode cL_law 1109 = .ok (.aload_n 2, 1) := by decide +kernel
theorem dL_law_1110 : decode cL_law 1110 = .ok (.invokevirtual 112, 3) := by decide +kernel
theorem dL_law_1113 : decode cL_law 1113 = .ok (.iload 5, 2) := by decide +kernel
theorem dL_law_1115 : decode cL_law 1115 = .ok (.if_icmp .eq 5, 3) := by decide +kernel
theorem dL_law_1118 : decode cL_law 1118 = .ok (.iconst 0, 1) := by decide +kernel
theorem dL_law_1119 : decode cL_law 1119 = .ok (.ireturn, 1) := by decide +kernel
theorem dL_law_1120 : decode cL_law 1120 = .ok (.iload 5, 2) := by decide +kernel
theorem dL_law_1122 : decode cL_law 1122 = .ok (.ifCond .ne 15, 3) := by decide +kernel
theorem dL_law_1125 : decode cL_law 1125 = .ok (.aload_n 3, 1) := by decide +kernel
theorem dL_law_1126 : decode cL_law 1126 = .ok (.iconst 0, 1) := by decide +kernel
theorem dL_law_1127 : decode cL_law 1127 = .ok (.laload, 1) := by decide +kernel
theorem dL_law_1128 : decode cL_law 1128 = .ok (.iload 6, 2) := by decide +kernel
theorem dL_law_1130 : decode cL_law 1130 = .ok (.i2l, 1) := by decide +kernel
theorem dL_law_1131 : decode cL_law 1131 = .ok (.lcmp, 1) := by decide +kernel
theorem dL_law_1132 : decode cL_law 1132 = .ok (.ifCond .eq 5, 3) := by decide +kernel
theorem dL_law_1135 : decode cL_law 1135 = .ok (.iconst 0, 1) := by decide +kernel
theorem dL_law_1136 : decode cL_law 1136 = .ok (.ireturn, 1) := by decide +kernel
theorem dL_law_1137 : decode cL_law 1137 = .ok (.goto 1139, 3) := by decide +kernel
theorem dL_law_1140 : decode cL_law 1140 = .ok (.aload_n 1, 1) := by decide +kernel
theorem dL_law_1141 : decode cL_law 1141 = .ok (.aload_n 0, 1) := by decide +kernel
theorem dL_law_1142 : decode cL_law 1142 = .ok (.iload 4, 2) := by decide +kernel
theorem dL_law_1144 : decode cL_law 1144 = .ok (.iconst 1, 1) := by decide +kernel
theorem dL_law_1145 : decode cL_law 1145 = .ok (.iadd, 1) := by decide +kernel
theorem dL_law_1146 : decode cL_law 1146 = .ok (.iaload, 1) := by decide +kernel
theorem dL_law_1147 : decode cL_law 1147 = .ok (.aload_n 0, 1) := by decide +kernel
theorem dL_law_1148 : decode cL_law 1148 = .ok (.iload 4, 2) := by decide +kernel
theorem dL_law_1150 : decode cL_law 1150 = .ok (.iconst 2, 1) := by decide +kernel
theorem dL_law_1151 : decode cL_law 1151 = .ok (.iadd, 1) := by decide +kernel
theorem dL_law_1152 : decode cL_law 1152 = .ok (.iaload, 1) := by decide +kernel
theorem dL_law_1153 : decode cL_law 1153 = .ok (.aload_n 3, 1) := by decide +kernel
theorem dL_law_1154 : decode cL_law 1154 = .ok (.invokestatic 156, 3) := by decide +kernel
theorem dL_law_1157 : decode cL_law 1157 = .ok (.istore 5, 2) := by decide +kernel
theorem dL_law_1159 : decode cL_law 1159 = .ok (.aload_n 2, 1) := by decide +kernel
theorem dL_law_1160 : decode cL_law 1160 = .ok (.aload_n 0, 1) := by decide +kernel
theorem dL_law_1161 : decode cL_law 1161 = .ok (.iload 4, 2) := by decide +kernel
theorem dL_law_1163 : decode cL_law 1163 = .ok (.iconst 1, 1) := by decide +kernel
theorem dL_law_1164 : decode cL_law 1164 = .ok (.iadd, 1) := by decide +kernel
theorem dL_law_1165 : decode cL_law 1165 = .ok (.iaload, 1) := by decide +kernel
theorem dL_law_1166 : decode cL_law 1166 = .ok (.aload_n 0, 1) := by decide +kernel
theorem dL_law_1167 : decode cL_law 1167 = .ok (.iload 4, 2) := by decide +kernel
theorem dL_law_1169 : decode cL_law 1169 = .ok (.iconst 2, 1) := by decide +kernel
theorem dL_law_1170 : decode cL_law 1170 = .ok (.iadd, 1) := by decide +kernel
theorem dL_law_1171 : decode cL_law 1171 = .ok (.iaload, 1) := by decide +kernel
theorem dL_law_1172 : decode cL_law 1172 = .ok (.invokevirtual 158, 3) := by decide +kernel
theorem dL_law_1175 : decode cL_law 1175 = .ok (.istore 6, 2) := by decide +kernel
theorem dL_law_1177 : decode cL_law 1177 = .ok (.aload_n 2, 1) := by decide +kernel
theorem dL_law_1178 : decode cL_law 1178 = .ok (.invokevirtual 112, 3) := by decide +kernel
theorem dL_law_1181 : decode cL_law 1181 = .ok (.iload 5, 2) := by decide +kernel
theorem dL_law_1183 : decode cL_law 1183 = .ok (.if_icmp .eq 5, 3) := by decide +kernel
theorem dL_law_1186 : decode cL_law 1186 = .ok (.iconst 0, 1) := by decide +kernel
theorem dL_law_1187 : decode cL_law 1187 = .ok (.ireturn, 1) := by decide +kernel
theorem dL_law_1188 : decode cL_law 1188 = .ok (.iload 5, 2) := by decide +kernel
theorem dL_law_1190 : decode cL_law 1190 = .ok (.ifCond .ne 15, 3) := by decide +kernel
theorem dL_law_1193 : decode cL_law 1193 = .ok (.aload_n 3, 1) := by decide +kernel
theorem dL_law_1194 : decode cL_law 1194 = .ok (.iconst 0, 1) := by decide +kernel
theorem dL_law_1195 : decode cL_law 1195 = .ok (.laload, 1) := by decide +kernel
theorem dL_law_1196 : decode cL_law 1196 = .ok (.iload 6, 2) := by decide +kernel
theorem dL_law_1198 : decode cL_law 1198 = .ok (.i2l, 1) := by decide +kernel
theorem dL_law_1199 : decode cL_law 1199 = .ok (.lcmp, 1) := by decide +kernel
theorem dL_law_1200 : decode cL_law 1200 = .ok (.ifCond .eq 5, 3) := by decide +kernel
theorem dL_law_1203 : decode cL_law 1203 = .ok (.iconst 0, 1) := by decide +kernel
theorem dL_law_1204 : decode cL_law 1204 = .ok (.ireturn, 1) := by decide +kernel
theorem dL_law_1205 : decode cL_law 1205 = .ok (.goto 1071, 3) := by decide +kernel
theorem dL_law_1208 : decode cL_law 1208 = .ok (.aload_n 1, 1) := by decide +kernel
theorem dL_law_1209 : decode cL_law 1209 = .ok (.aload_n 0, 1) := by decide +kernel
theorem dL_law_1210 : decode cL_law 1210 = .ok (.iload 4, 2) := by decide +kernel
theorem dL_law_1212 : decode cL_law 1212 = .ok (.iconst 1, 1) := by decide +kernel
theorem dL_law_1213 : decode cL_law 1213 = .ok (.iadd, 1) := by decide +kernel
theorem dL_law_1214 : decode cL_law 1214 = .ok (.iaload, 1) := by decide +kernel
theorem dL_law_1215 : decode cL_law 1215 = .ok (.aload_n 0, 1) := by decide +kernel
theorem dL_law_1216 : decode cL_law 1216 = .ok (.iload 4, 2) := by decide +kernel
theorem dL_law_1218 : decode cL_law 1218 = .ok (.iconst 2, 1) := by decide +kernel
theorem dL_law_1219 : decode cL_law 1219 = .ok (.iadd, 1) := by decide +kernel
theorem dL_law_1220 : decode cL_law 1220 = .ok (.iaload, 1) := by decide +kernel
theorem dL_law_1221 : decode cL_law 1221 = .ok (.aload_n 3, 1) := by decide +kernel
theorem dL_law_1222 : decode cL_law 1222 = .ok (.invokestatic 159, 3) := by decide +kernel
theorem dL_law_1225 : decode cL_law 1225 = .ok (.istore 5, 2) := by decide +kernel
theorem dL_law_1227 : decode cL_law 1227 = .ok (.aload_n 2, 1) := by decide +kernel
theorem dL_law_1228 : decode cL_law 1228 = .ok (.aload_n 0, 1) := by decide +kernel
theorem dL_law_1229 : decode cL_law 1229 = .ok (.iload 4, 2) := by decide +kernel
theorem dL_law_1231 : decode cL_law 1231 = .ok (.iconst 1, 1) := by decide +kernel
theorem dL_law_1232 : decode cL_law 1232 = .ok (.iadd, 1) := by decide +kernel
theorem dL_law_1233 : decode cL_law 1233 = .ok (.iaload, 1) := by decide +kernel
theorem dL_law_1234 : decode cL_law 1234 = .ok (.aload_n 0, 1) := by decide +kernel
theorem dL_law_1235 : decode cL_law 1235 = .ok (.iload 4, 2) := by decide +kernel
theorem dL_law_1237 : decode cL_law 1237 = .ok (.iconst 2, 1) := by decide +kernel
theorem dL_law_1238 : decode cL_law 1238 = .ok (.iadd, 1) := by decide +kernel
theorem dL_law_1239 : decode cL_law 1239 = .ok (.iaload, 1) := by decide +kernel
theorem dL_law_1240 : decode cL_law 1240 = .ok (.invokevirtual 161, 3) := by decide +kernel
theorem dL_law_1243 : decode cL_law 1243 = .ok (.istore 6, 2) := by decide +kernel
theorem dL_law_1245 : decode cL_law 1245 = .ok (.aload_n 2, 1) := by decide +kernel
theorem dL_law_1246 : decode cL_law 1246 = .ok (.invokevirtual 112, 3) := by decide +kernel
theorem dL_law_1249 : decode cL_law 1249 = .ok (.iload 5, 2) := by decide +kernel
theorem dL_law_1251 : decode cL_law 1251 = .ok (.if_icmp .eq 5, 3) := by decide +kernel
theorem dL_law_1254 : decode cL_law 1254 = .ok (.iconst 0, 1) := by decide +kernel
theorem dL_law_1255 : decode cL_law 1255 = .ok (.ireturn, 1) := by decide +kernel
theorem dL_law_1256 : decode cL_law 1256 = .ok (.iload 5, 2) := by decide +kernel
theorem dL_law_1258 : decode cL_law 1258 = .ok (.ifCond .ne 15, 3) := by decide +kernel
theorem dL_law_1261 : decode cL_law 1261 = .ok (.aload_n 3, 1) := by decide +kernel
theorem dL_law_1262 : decode cL_law 1262 = .ok (.iconst 0, 1) := by decide +kernel
theorem dL_law_1263 : decode cL_law 1263 = .ok (.laload, 1) := by decide +kernel
theorem dL_law_1264 : decode cL_law 1264 = .ok (.iload 6, 2) := by decide +kernel
theorem dL_law_1266 : decode cL_law 1266 = .ok (.i2l, 1) := by decide +kernel
theorem dL_law_1267 : decode cL_law 1267 = .ok (.lcmp, 1) := by decide +kernel
theorem dL_law_1268 : decode cL_law 1268 = .ok (.ifCond .eq 5, 3) := by decide +kernel
theorem dL_law_1271 : decode cL_law 1271 = .ok (.iconst 0, 1) := by decide +kernel
theorem dL_law_1272 : decode cL_law 1272 = .ok (.ireturn, 1) := by decide +kernel
theorem dL_law_1273 : decode cL_law 1273 = .ok (.goto 1003, 3) := by decide +kernel
theorem dL_law_1276 : decode cL_law 1276 = .ok (.aload_n 1, 1) := by decide +kernel
theorem dL_law_1277 : decode cL_law 1277 = .ok (.invokevirtual 162, 3) := by decide +kernel
theorem dL_law_1280 : decode cL_law 1280 = .ok (.aload_n 2, 1) := by decide +kernel
theorem dL_law_1281 : decode cL_law 1281 = .ok (.invokevirtual 165, 3) := by decide +kernel
theorem dL_law_1284 : decode cL_law 1284 = .ok (.if_icmp .eq 992, 3) := by decide +kernel
theorem dL_law_1287 : decode cL_law 1287 = .ok (.iconst 0, 1) := by decide +kernel
theorem dL_law_1288 : decode cL_law 1288 = .ok (.ireturn, 1) := by decide +kernel
theorem dL_law_1289 : decode cL_law 1289 = .ok (.aload_n 1, 1) := by decide +kernel
theorem dL_law_1290 : decode cL_law 1290 = .ok (.aload_n 0, 1) := by decide +kernel
theorem dL_law_1291 : decode cL_law 1291 = .ok (.iload 4, 2) := by decide +kernel
theorem dL_law_1293 : decode cL_law 1293 = .ok (.iconst 1, 1) := by decide +kernel
theorem dL_law_1294 : decode cL_law 1294 = .ok (.iadd, 1) := by decide +kernel
theorem dL_law_1295 : decode cL_law 1295 = .ok (.iaload, 1) := by decide +kernel
theorem dL_law_1296 : decode cL_law 1296 = .ok (.aload_n 0, 1) := by decide +kernel
theorem dL_law_1297 : decode cL_law 1297 = .ok (.iload 4, 2) := by decide +kernel
theorem dL_law_1299 : decode cL_law 1299 = .ok (.iconst 2, 1) := by decide +kernel
theorem dL_law_1300 : decode cL_law 1300 = .ok (.iadd, 1) := by decide +kernel
theorem dL_law_1301 : decode cL_law 1301 = .ok (.iaload, 1) := by decide +kernel
theorem dL_law_1302 : decode cL_law 1302 = .ok (.aload_n 0, 1) := by decide +kernel
theorem dL_law_1303 : decode cL_law 1303 = .ok (.iload 4, 2) := by decide +kernel
theorem dL_law_1305 : decode cL_law 1305 = .ok (.iconst 3, 1) := by decide +kernel
theorem dL_law_1306 : decode cL_law 1306 = .ok (.iadd, 1) := by decide +kernel
theorem dL_law_1307 : decode cL_law 1307 = .ok (.iaload, 1) := by decide +kernel
theorem dL_law_1308 : decode cL_law 1308 = .ok (.aload_n 0, 1) := by decide +kernel
theorem dL_law_1309 : decode cL_law 1309 = .ok (.iload 4, 2) := by decide +kernel
theorem dL_law_1311 : decode cL_law 1311 = .ok (.iconst 4, 1) := by decide +kernel
theorem dL_law_1312 : decode cL_law 1312 = .ok (.iadd, 1) := by decide +kernel
theorem dL_law_1313 : decode cL_law 1313 = .ok (.iaload, 1) := by decide +kernel
theorem dL_law_1314 : decode cL_law 1314 = .ok (.aload_n 3, 1) := by decide +kernel
theorem dL_law_1315 : decode cL_law 1315 = .ok (.invokestatic 166, 3) := by decide +kernel
theorem dL_law_1318 : decode cL_law 1318 = .ok (.istore 5, 2) := by decide +kernel
theorem dL_law_1320 : decode cL_law 1320 = .ok (.aload_n 2, 1) := by decide +kernel
theorem dL_law_1321 : decode cL_law 1321 = .ok (.aload_n 0, 1) := by decide +kernel
theorem dL_law_1322 : decode cL_law 1322 = .ok (.iload 4, 2) := by decide +kernel
theorem dL_law_1324 : decode cL_law 1324 = .ok (.iconst 1, 1) := by decide +kernel
theorem dL_law_1325 : decode cL_law 1325 = .ok (.iadd, 1) := by decide +kernel
theorem dL_law_1326 : decode cL_law 1326 = .ok (.iaload, 1) := by decide +kernel
theorem dL_law_1327 : decode cL_law 1327 = .ok (.aload_n 0, 1) := by decide +kernel
theorem dL_law_1328 : decode cL_law 1328 = .ok (.iload 4, 2) := by decide +kernel
theorem dL_law_1330 : decode cL_law 1330 = .ok (.iconst 2, 1) := by decide +kernel
theorem dL_law_1331 : decode cL_law 1331 = .ok (.iadd, 1) := by decide +kernel
theorem dL_law_1332 : decode cL_law 1332 = .ok (.iaload, 1) := by decide +kernel
theorem dL_law_1333 : decode cL_law 1333 = .ok (.aload_n 0, 1) := by decide +kernel
theorem dL_law_1334 : decode cL_law 1334 = .ok (.iload 4, 2) := by decide +kernel
theorem dL_law_1336 : decode cL_law 1336 = .ok (.iconst 3, 1) := by decide +kernel
theorem dL_law_1337 : decode cL_law 1337 = .ok (.iadd, 1) := by decide +kernel
theorem dL_law_1338 : decode cL_law 1338 = .ok (.iaload, 1) := by decide +kernel
theorem dL_law_1339 : decode cL_law 1339 = .ok (.aload_n 0, 1) := by decide +kernel
theorem dL_law_1340 : decode cL_law 1340 = .ok (.iload 4, 2) := by decide +kernel
theorem dL_law_1342 : decode cL_law 1342 = .ok (.iconst 4, 1) := by decide +kernel
theorem dL_law_1343 : decode cL_law 1343 = .ok (.iadd, 1) := by decide +kernel
theorem dL_law_1344 : decode cL_law 1344 = .ok (.iaload, 1) := by decide +kernel
theorem dL_law_1345 : decode cL_law 1345 = .ok (.invokevirtual 168, 3) := by decide +kernel
theorem dL_law_1348 : decode cL_law 1348 = .ok (.istore 6, 2) := by decide +kernel
theorem dL_law_1350 : decode cL_law 1350 = .ok (.aload_n 2, 1) := by decide +kernel
theorem dL_law_1351 : decode cL_law 1351 = .ok (.invokevirtual 112, 3) := by decide +kernel
theorem dL_law_1354 : decode cL_law 1354 = .ok (.iload 5, 2) := by decide +kernel
theorem dL_law_1356 : decode cL_law 1356 = .ok (.if_icmp .eq 5, 3) := by decide +kernel
theorem dL_law_1359 : decode cL_law 1359 = .ok (.iconst 0, 1) := by decide +kernel
theorem dL_law_1360 : decode cL_law 1360 = .ok (.ireturn, 1) := by decide +kernel
theorem dL_law_1361 : decode cL_law 1361 = .ok (.iload 5, 2) := by decide +kernel
theorem dL_law_1363 : decode cL_law 1363 = .ok (.ifCond .ne 15, 3) := by decide +kernel
theorem dL_law_1366 : decode cL_law 1366 = .ok (.aload_n 3, 1) := by decide +kernel
theorem dL_law_1367 : decode cL_law 1367 = .ok (.iconst 0, 1) := by decide +kernel
theorem dL_law_1368 : decode cL_law 1368 = .ok (.laload, 1) := by decide +kernel
theorem dL_law_1369 : decode cL_law 1369 = .ok (.iload 6, 2) := by decide +kernel
theorem dL_law_1371 : decode cL_law 1371 = .ok (.i2l, 1) := by decide +kernel
theorem dL_law_1372 : decode cL_law 1372 = .ok (.lcmp, 1) := by decide +kernel
theorem dL_law_1373 : decode cL_law 1373 = .ok (.ifCond .eq 5, 3) := by decide +kernel
theorem dL_law_1376 : decode cL_law 1376 = .ok (.iconst 0, 1) := by decide +kernel
theorem dL_law_1377 : decode cL_law 1377 = .ok (.ireturn, 1) := by decide +kernel
theorem dL_law_1378 : decode cL_law 1378 = .ok (.goto 898, 3) := by decide +kernel
theorem dL_law_1381 : decode cL_law 1381 = .ok (.aload_n 1, 1) := by decide +kernel
theorem dL_law_1382 : decode cL_law 1382 = .ok (.aload_n 0, 1) := by decide +kernel
theorem dL_law_1383 : decode cL_law 1383 = .ok (.iload 4, 2) := by decide +kernel
theorem dL_law_1385 : decode cL_law 1385 = .ok (.iconst 1, 1) := by decide +kernel
theorem dL_law_1386 : decode cL_law 1386 = .ok (.iadd, 1) := by decide +kernel
theorem dL_law_1387 : decode cL_law 1387 = .ok (.iaload, 1) := by decide +kernel
theorem dL_law_1388 : decode cL_law 1388 = .ok (.aload_n 0, 1) := by decide +kernel
theorem dL_law_1389 : decode cL_law 1389 = .ok (.iload 4, 2) := by decide +kernel
theorem dL_law_1391 : decode cL_law 1391 = .ok (.iconst 2, 1) := by decide +kernel
theorem dL_law_1392 : decode cL_law 1392 = .ok (.iadd, 1) := by decide +kernel
theorem dL_law_1393 : decode cL_law 1393 = .ok (.iaload, 1) := by decide +kernel
theorem dL_law_1394 : decode cL_law 1394 = .ok (.aload_n 0, 1) := by decide +kernel
theorem dL_law_1395 : decode cL_law 1395 = .ok (.iload 4, 2) := by decide +kernel
theorem dL_law_1397 : decode cL_law 1397 = .ok (.iconst 3, 1) := by decide +kernel
theorem dL_law_1398 : decode cL_law 1398 = .ok (.iadd, 1) := by decide +kernel
theorem dL_law_1399 : decode cL_law 1399 = .ok (.iaload, 1) := by decide +kernel
theorem dL_law_1400 : decode cL_law 1400 = .ok (.aload_n 3, 1) := by decide +kernel
theorem dL_law_1401 : decode cL_law 1401 = .ok (.invokestatic 169, 3) := by decide +kernel
theorem dL_law_1404 : decode cL_law 1404 = .ok (.istore 5, 2) := by decide +kernel
theorem dL_law_1406 : decode cL_law 1406 = .ok (.aload_n 2, 1) := by decide +kernel
theorem dL_law_1407 : decode cL_law 1407 = .ok (.aload_n 0, 1) := by decide +kernel
theorem dL_law_1408 : decode cL_law 1408 = .ok (.iload 4, 2) := by decide +kernel
theorem dL_law_1410 : decode cL_law 1410 = .ok (.iconst 1, 1) := by decide +kernel
theorem dL_law_1411 : decode cL_law 1411 = .ok (.iadd, 1) := by decide +kernel
theorem dL_law_1412 : decode cL_law 1412 = .ok (.iaload, 1) := by decide +kernel
theorem dL_law_1413 : decode cL_law 1413 = .ok (.aload_n 0, 1) := by decide +kernel
theorem dL_law_1414 : decode cL_law 1414 = .ok (.iload 4, 2) := by decide +kernel
theorem dL_law_1416 : decode cL_law 1416 = .ok (.iconst 2, 1) := by decide +kernel
theorem dL_law_1417 : decode cL_law 1417 = .ok (.iadd, 1) := by decide +kernel
theorem dL_law_1418 : decode cL_law 1418 = .ok (.iaload, 1) := by decide +kernel
theorem dL_law_1419 : decode cL_law 1419 = .ok (.aload_n 0, 1) := by decide +kernel
theorem dL_law_1420 : decode cL_law 1420 = .ok (.iload 4, 2) := by decide +kernel
theorem dL_law_1422 : decode cL_law 1422 = .ok (.iconst 3, 1) := by decide +kernel
theorem dL_law_1423 : decode cL_law 1423 = .ok (.iadd, 1) := by decide +kernel
theorem dL_law_1424 : decode cL_law 1424 = .ok (.iaload, 1) := by decide +kernel
theorem dL_law_1425 : decode cL_law 1425 = .ok (.invokevirtual 171, 3) := by decide +kernel
theorem dL_law_1428 : decode cL_law 1428 = .ok (.istore 6, 2) := by decide +kernel
theorem dL_law_1430 : decode cL_law 1430 = .ok (.aload_n 2, 1) := by decide +kernel
theorem dL_law_1431 : decode cL_law 1431 = .ok (.invokevirtual 112, 3) := by decide +kernel
theorem dL_law_1434 : decode cL_law 1434 = .ok (.iload 5, 2) := by decide +kernel
theorem dL_law_1436 : decode cL_law 1436 = .ok (.if_icmp .eq 5, 3) := by decide +kernel
theorem dL_law_1439 : decode cL_law 1439 = .ok (.iconst 0, 1) := by decide +kernel
theorem dL_law_1440 : decode cL_law 1440 = .ok (.ireturn, 1) := by decide +kernel
theorem dL_law_1441 : decode cL_law 1441 = .ok (.iload 5, 2) := by decide +kernel
theorem dL_law_1443 : decode cL_law 1443 = .ok (.ifCond .ne 15, 3) := by decide +kernel
theorem dL_law_1446 : decode cL_law 1446 = .ok (.aload_n 3, 1) := by decide +kernel
theorem dL_law_1447 : decode cL_law 1447 = .ok (.iconst 0, 1) := by decide +kernel
theorem dL_law_1448 : decode cL_law 1448 = .ok (.laload, 1) := by decide +kernel
theorem dL_law_1449 : decode cL_law 1449 = .ok (.iload 6, 2) := by decide +kernel
theorem dL_law_1451 : decode cL_law 1451 = .ok (.i2l, 1) := by decide +kernel
theorem dL_law_1452 : decode cL_law 1452 = .ok (.lcmp, 1) := by decide +kernel
theorem dL_law_1453 : decode cL_law 1453 = .ok (.ifCond .eq 5, 3) := by decide +kernel
theorem dL_law_1456 : decode cL_law 1456 = .ok (.iconst 0, 1) := by decide +kernel
theorem dL_law_1457 : decode cL_law 1457 = .ok (.ireturn, 1) := by decide +kernel
theorem dL_law_1458 : decode cL_law 1458 = .ok (.goto 818, 3) := by decide +kernel
theorem dL_law_1461 : decode cL_law 1461 = .ok (.aload_n 1, 1) := by decide +kernel
theorem dL_law_1462 : decode cL_law 1462 = .ok (.aload_n 0, 1) := by decide +kernel
theorem dL_law_1463 : decode cL_law 1463 = .ok (.iload 4, 2) := by decide +kernel
theorem dL_law_1465 : decode cL_law 1465 = .ok (.iconst 1, 1) := by decide +kernel
theorem dL_law_1466 : decode cL_law 1466 = .ok (.iadd, 1) := by decide +kernel
theorem dL_law_1467 : decode cL_law 1467 = .ok (.iaload, 1) := by decide +kernel
theorem dL_law_1468 : decode cL_law 1468 = .ok (.aload_n 0, 1) := by decide +kernel
theorem dL_law_1469 : decode cL_law 1469 = .ok (.iload 4, 2) := by decide +kernel
theorem dL_law_1471 : decode cL_law 1471 = .ok (.iconst 2, 1) := by decide +kernel
theorem dL_law_1472 : decode cL_law 1472 = .ok (.iadd, 1) := by decide +kernel
theorem dL_law_1473 : decode cL_law 1473 = .ok (.iaload, 1) := by decide +kernel
theorem dL_law_1474 : decode cL_law 1474 = .ok (.aload_n 0, 1) := by decide +kernel
theorem dL_law_1475 : decode cL_law 1475 = .ok (.iload 4, 2) := by decide +kernel
theorem dL_law_1477 : decode cL_law 1477 = .ok (.iconst 3, 1) := by decide +kernel
theorem dL_law_1478 : decode cL_law 1478 = .ok (.iadd, 1) := by decide +kernel
theorem dL_law_1479 : decode cL_law 1479 = .ok (.iaload, 1) := by decide +kernel
theorem dL_law_1480 : decode cL_law 1480 = .ok (.aload_n 3, 1) := by decide +kernel
theorem dL_law_1481 : decode cL_law 1481 = .ok (.invokestatic 172, 3) := by decide +kernel
theorem dL_law_1484 : decode cL_law 1484 = .ok (.istore 5, 2) := by decide +kernel
theorem dL_law_1486 : decode cL_law 1486 = .ok (.aload_n 2, 1) := by decide +kernel
theorem dL_law_1487 : decode cL_law 1487 = .ok (.aload_n 0, 1) := by decide +kernel
theorem dL_law_1488 : decode cL_law 1488 = .ok (.iload 4, 2) := by decide +kernel
theorem dL_law_1490 : decode cL_law 1490 = .ok (.iconst 1, 1) := by decide +kernel
theorem dL_law_1491 : decode cL_law 1491 = .ok (.iadd, 1) := by decide +kernel
theorem dL_law_1492 : decode cL_law 1492 = .ok (.iaload, 1) := by decide +kernel
theorem dL_law_1493 : decode cL_law 1493 = .ok (.aload_n 0, 1) := by decide +kernel
theorem dL_law_1494 : decode cL_law 1494 = .ok (.iload 4, 2) := by decide +kernel
theorem dL_law_1496 : decode cL_law 1496 = .ok (.iconst 2, 1) := by decide +kernel
theorem dL_law_1497 : decode cL_law 1497 = .ok (.iadd, 1) := by decide +kernel
theorem dL_law_1498 : decode cL_law 1498 = .ok (.iaload, 1) := by decide +kernel
theorem dL_law_1499 : decode cL_law 1499 = .ok (.aload_n 0, 1) := by decide +kernel
theorem dL_law_1500 : decode cL_law 1500 = .ok (.iload 4, 2) := by decide +kernel
theorem dL_law_1502 : decode cL_law 1502 = .ok (.iconst 3, 1) := by decide +kernel
theorem dL_law_1503 : decode cL_law 1503 = .ok (.iadd, 1) := by decide +kernel
theorem dL_law_1504 : decode cL_law 1504 = .ok (.iaload, 1) := by decide +kernel
theorem dL_law_1505 : decode cL_law 1505 = .ok (.invokevirtual 174, 3) := by decide +kernel
theorem dL_law_1508 : decode cL_law 1508 = .ok (.istore 6, 2) := by decide +kernel
theorem dL_law_1510 : decode cL_law 1510 = .ok (.aload_n 2, 1) := by decide +kernel
theorem dL_law_1511 : decode cL_law 1511 = .ok (.invokevirtual 112, 3) := by decide +kernel
theorem dL_law_1514 : decode cL_law 1514 = .ok (.iload 5, 2) := by decide +kernel
theorem dL_law_1516 : decode cL_law 1516 = .ok (.if_icmp .eq 5, 3) := by decide +kernel
theorem dL_law_1519 : decode cL_law 1519 = .ok (.iconst 0, 1) := by decide +kernel
theorem dL_law_1520 : decode cL_law 1520 = .ok (.ireturn, 1) := by decide +kernel
theorem dL_law_1521 : decode cL_law 1521 = .ok (.iload 5, 2) := by decide +kernel
theorem dL_law_1523 : decode cL_law 1523 = .ok (.ifCond .ne 15, 3) := by decide +kernel
theorem dL_law_1526 : decode cL_law 1526 = .ok (.aload_n 3, 1) := by decide +kernel
theorem dL_law_1527 : decode cL_law 1527 = .ok (.iconst 0, 1) := by decide +kernel
theorem dL_law_1528 : decode cL_law 1528 = .ok (.laload, 1) := by decide +kernel
theorem dL_law_1529 : decode cL_law 1529 = .ok (.iload 6, 2) := by decide +kernel
theorem dL_law_1531 : decode cL_law 1531 = .ok (.i2l, 1) := by decide +kernel
theorem dL_law_1532 : decode cL_law 1532 = .ok (.lcmp, 1) := by decide +kernel
theorem dL_law_1533 : decode cL_law 1533 = .ok (.ifCond .eq 5, 3) := by decide +kernel
theorem dL_law_1536 : decode cL_law 1536 = .ok (.iconst 0, 1) := by decide +kernel
theorem dL_law_1537 : decode cL_law 1537 = .ok (.ireturn, 1) := by decide +kernel
theorem dL_law_1538 : decode cL_law 1538 = .ok (.goto 738, 3) := by decide +kernel
theorem dL_law_1541 : decode cL_law 1541 = .ok (.aload_n 1, 1) := by decide +kernel
theorem dL_law_1542 : decode cL_law 1542 = .ok (.aload_n 0, 1) := by decide +kernel
theorem dL_law_1543 : decode cL_law 1543 = .ok (.iload 4, 2) := by decide +kernel
theorem dL_law_1545 : decode cL_law 1545 = .ok (.iconst 1, 1) := by decide +kernel
theorem dL_law_1546 : decode cL_law 1546 = .ok (.iadd, 1) := by decide +kernel
theorem dL_law_1547 : decode cL_law 1547 = .ok (.iaload, 1) := by decide +kernel
theorem dL_law_1548 : decode cL_law 1548 = .ok (.aload_n 3, 1) := by decide +kernel
theorem dL_law_1549 : decode cL_law 1549 = .ok (.invokestatic 175, 3) := by decide +kernel
theorem dL_law_1552 : decode cL_law 1552 = .ok (.istore 5, 2) := by decide +kernel
theorem dL_law_1554 : decode cL_law 1554 = .ok (.aload_n 2, 1) := by decide +kernel
theorem dL_law_1555 : decode cL_law 1555 = .ok (.aload_n 0, 1) := by decide +kernel
theorem dL_law_1556 : decode cL_law 1556 = .ok (.iload 4, 2) := by decide +kernel
theorem dL_law_1558 : decode cL_law 1558 = .ok (.iconst 1, 1) := by decide +kernel
theorem dL_law_1559 : decode cL_law 1559 = .ok (.iadd, 1) := by decide +kernel
theorem dL_law_1560 : decode cL_law 1560 = .ok (.iaload, 1) := by decide +kernel
theorem dL_law_1561 : decode cL_law 1561 = .ok (.invokevirtual 177, 3) := by decide +kernel
theorem dL_law_1564 : decode cL_law 1564 = .ok (.istore 6, 2) := by decide +kernel
theorem dL_law_1566 : decode cL_law 1566 = .ok (.aload_n 2, 1) := by decide +kernel
theorem dL_law_1567 : decode cL_law 1567 = .ok (.invokevirtual 112, 3) := by decide +kernel
theorem dL_law_1570 : decode cL_law 1570 = .ok (.iload 5, 2) := by decide +kernel
theorem dL_law_1572 : decode cL_law 1572 = .ok (.if_icmp .eq 5, 3) := by decide +kernel
theorem dL_law_1575 : decode cL_law 1575 = .ok (.iconst 0, 1) := by decide +kernel
theorem dL_law_1576 : decode cL_law 1576 = .ok (.ireturn, 1) := by decide +kernel
theorem dL_law_1577 : decode cL_law 1577 = .ok (.iload 5, 2) := by decide +kernel
theorem dL_law_1579 : decode cL_law 1579 = .ok (.ifCond .ne 15, 3) := by decide +kernel
theorem dL_law_1582 : decode cL_law 1582 = .ok (.aload_n 3, 1) := by decide +kernel
theorem dL_law_1583 : decode cL_law 1583 = .ok (.iconst 0, 1) := by decide +kernel
theorem dL_law_1584 : decode cL_law 1584 = .ok (.laload, 1) := by decide +kernel
theorem dL_law_1585 : decode cL_law 1585 = .ok (.iload 6, 2) := by decide +kernel
theorem dL_law_1587 : decode cL_law 1587 = .ok (.i2l, 1) := by decide +kernel
theorem dL_law_1588 : decode cL_law 1588 = .ok (.lcmp, 1) := by decide +kernel
theorem dL_law_1589 : decode cL_law 1589 = .ok (.ifCond .eq 5, 3) := by decide +kernel
theorem dL_law_1592 : decode cL_law 1592 = .ok (.iconst 0, 1) := by decide +kernel
theorem dL_law_1593 : decode cL_law 1593 = .ok (.ireturn, 1) := by decide +kernel
theorem dL_law_1594 : decode cL_law 1594 = .ok (.goto 682, 3) := by decide +kernel
theorem dL_law_1597 : decode cL_law 1597 = .ok (.aload_n 1, 1) := by decide +kernel
theorem dL_law_1598 : decode cL_law 1598 = .ok (.invokevirtual 178, 3) := by decide +kernel
theorem dL_law_1601 : decode cL_law 1601 = .ok (.dstore 5, 2) := by decide +kernel
theorem dL_law_1603 : decode cL_law 1603 = .ok (.aload_n 2, 1) := by decide +kernel
theorem dL_law_1604 : decode cL_law 1604 = .ok (.invokevirtual 182, 3) := by decide +kernel
theorem dL_law_1607 : decode cL_law 1607 = .ok (.dstore 7, 2) := by decide +kernel
theorem dL_law_1609 : decode cL_law 1609 = .ok (.dload 5, 2) := by decide +kernel
theorem dL_law_1611 : decode cL_law 1611 = .ok (.dload 7, 2) := by decide +kernel
theorem dL_law_1613 : decode cL_law 1613 = .ok (.dcmp .l, 1) := by decide +kernel
theorem dL_law_1614 : decode cL_law 1614 = .ok (.ifCond .eq 21, 3) := by decide +kernel
theorem dL_law_1617 : decode cL_law 1617 = .ok (.dload 5, 2) := by decide +kernel
theorem dL_law_1619 : decode cL_law 1619 = .ok (.dload 5, 2) := by decide +kernel
theorem dL_law_1621 : decode cL_law 1621 = .ok (.dcmp .l, 1) := by decide +kernel
theorem dL_law_1622 : decode cL_law 1622 = .ok (.ifCond .eq 11, 3) := by decide +kernel
theorem dL_law_1625 : decode cL_law 1625 = .ok (.dload 7, 2) := by decide +kernel
theorem dL_law_1627 : decode cL_law 1627 = .ok (.dload 7, 2) := by decide +kernel
theorem dL_law_1629 : decode cL_law 1629 = .ok (.dcmp .l, 1) := by decide +kernel
theorem dL_law_1630 : decode cL_law 1630 = .ok (.ifCond .ne 5, 3) := by decide +kernel
theorem dL_law_1633 : decode cL_law 1633 = .ok (.iconst 0, 1) := by decide +kernel
theorem dL_law_1634 : decode cL_law 1634 = .ok (.ireturn, 1) := by decide +kernel
theorem dL_law_1635 : decode cL_law 1635 = .ok (.goto 641, 3) := by decide +kernel
theorem dL_law_1638 : decode cL_law 1638 = .ok (.aload_n 1, 1) := by decide +kernel
theorem dL_law_1639 : decode cL_law 1639 = .ok (.invokevirtual 183, 3) := by decide +kernel
theorem dL_law_1642 : decode cL_law 1642 = .ok (.f2d, 1) := by decide +kernel
theorem dL_law_1643 : decode cL_law 1643 = .ok (.dstore 5, 2) := by decide +kernel
theorem dL_law_1645 : decode cL_law 1645 = .ok (.aload_n 2, 1) := by decide +kernel
theorem dL_law_1646 : decode cL_law 1646 = .ok (.invokevirtual 187, 3) := by decide +kernel
theorem dL_law_1649 : decode cL_law 1649 = .ok (.f2d, 1) := by decide +kernel
theorem dL_law_1650 : decode cL_law 1650 = .ok (.dstore 7, 2) := by decide +kernel
theorem dL_law_1652 : decode cL_law 1652 = .ok (.dload 5, 2) := by decide +kernel
theorem dL_law_1654 : decode cL_law 1654 = .ok (.dload 7, 2) := by decide +kernel
theorem dL_law_1656 : decode cL_law 1656 = .ok (.dcmp .l, 1) := by decide +kernel
theorem dL_law_1657 : decode cL_law 1657 = .ok (.ifCond .eq 21, 3) := by decide +kernel
theorem dL_law_1660 : decode cL_law 1660 = .ok (.dload 5, 2) := by decide +kernel
theorem dL_law_1662 : decode cL_law 1662 = .ok (.dload 5, 2) := by decide +kernel
theorem dL_law_1664 : decode cL_law 1664 = .ok (.dcmp .l, 1) := by decide +kernel
theorem dL_law_1665 : decode cL_law 1665 = .ok (.ifCond .eq 11, 3) := by decide +kernel
theorem dL_law_1668 : decode cL_law 1668 = .ok (.dload 7, 2) := by decide +kernel
theorem dL_law_1670 : decode cL_law 1670 = .ok (.dload 7, 2) := by decide +kernel
theorem dL_law_1672 : decode cL_law 1672 = .ok (.dcmp .l, 1) := by decide +kernel
theorem dL_law_1673 : decode cL_law 1673 = .ok (.ifCond .ne 5, 3) := by decide +kernel
theorem dL_law_1676 : decode cL_law 1676 = .ok (.iconst 0, 1) := by decide +kernel
theorem dL_law_1677 : decode cL_law 1677 = .ok (.ireturn, 1) := by decide +kernel
theorem dL_law_1678 : decode cL_law 1678 = .ok (.goto 598, 3) := by decide +kernel
theorem dL_law_1681 : decode cL_law 1681 = .ok (.aload_n 1, 1) := by decide +kernel
theorem dL_law_1682 : decode cL_law 1682 = .ok (.aload_n 0, 1) := by decide +kernel
theorem dL_law_1683 : decode cL_law 1683 = .ok (.iload 4, 2) := by decide +kernel
theorem dL_law_1685 : decode cL_law 1685 = .ok (.iconst 1, 1) := by decide +kernel
theorem dL_law_1686 : decode cL_law 1686 = .ok (.iadd, 1) := by decide +kernel
theorem dL_law_1687 : decode cL_law 1687 = .ok (.iaload, 1) := by decide +kernel
theorem dL_law_1688 : decode cL_law 1688 = .ok (.aload_n 3, 1) := by decide +kernel
theorem dL_law_1689 : decode cL_law 1689 = .ok (.invokestatic 188, 3) := by decide +kernel
theorem dL_law_1692 : decode cL_law 1692 = .ok (.istore 5, 2) := by decide +kernel
theorem dL_law_1694 : decode cL_law 1694 = .ok (.aload_n 2, 1) := by decide +kernel
theorem dL_law_1695 : decode cL_law 1695 = .ok (.aload_n 0, 1) := by decide +kernel
theorem dL_law_1696 : decode cL_law 1696 = .ok (.iload 4, 2) := by decide +kernel
theorem dL_law_1698 : decode cL_law 1698 = .ok (.iconst 1, 1) := by decide +kernel
theorem dL_law_1699 : decode cL_law 1699 = .ok (.iadd, 1) := by decide +kernel
theorem dL_law_1700 : decode cL_law 1700 = .ok (.iaload, 1) := by decide +kernel
theorem dL_law_1701 : decode cL_law 1701 = .ok (.invokevirtual 190, 3) := by decide +kernel
theorem dL_law_1704 : decode cL_law 1704 = .ok (.istore 6, 2) := by decide +kernel
theorem dL_law_1706 : decode cL_law 1706 = .ok (.aload_n 2, 1) := by decide +kernel
theorem dL_law_1707 : decode cL_law 1707 = .ok (.invokevirtual 112, 3) := by decide +kernel
theorem dL_law_1710 : decode cL_law 1710 = .ok (.iload 5, 2) := by decide +kernel
theorem dL_law_1712 : decode cL_law 1712 = .ok (.if_icmp .eq 5, 3) := by decide +kernel
theorem dL_law_1715 : decode cL_law 1715 = .ok (.iconst 0, 1) := by decide +kernel
theorem dL_law_1716 : decode cL_law 1716 = .ok (.ireturn, 1) := by decide +kernel
theorem dL_law_1717 : decode cL_law 1717 = .ok (.iload 5, 2) := by decide +kernel
theorem dL_law_1719 : decode cL_law 1719 = .ok (.ifCond .ne 15, 3) := by decide +kernel
theorem dL_law_1722 : decode cL_law 1722 = .ok (.aload_n 3, 1) := by decide +kernel
theorem dL_law_1723 : decode cL_law 1723 = .ok (.iconst 0, 1) := by decide +kernel
theorem dL_law_1724 : decode cL_law 1724 = .ok (.laload, 1) := by decide +kernel
theorem dL_law_1725 : decode cL_law 1725 = .ok (.iload 6, 2) := by decide +kernel
theorem dL_law_1727 : decode cL_law 1727 = .ok (.i2l, 1) := by decide +kernel
theorem dL_law_1728 : decode cL_law 1728 = .ok (.lcmp, 1) := by decide +kernel
theorem dL_law_1729 : decode cL_law 1729 = .ok (.ifCond .eq 5, 3) := by decide +kernel
theorem dL_law_1732 : decode cL_law 1732 = .ok (.iconst 0, 1) := by decide +kernel
theorem dL_law_1733 : decode cL_law 1733 = .ok (.ireturn, 1) := by decide +kernel
theorem dL_law_1734 : decode cL_law 1734 = .ok (.goto 542, 3) := by decide +kernel
theorem dL_law_1737 : decode cL_law 1737 = .ok (.aload_n 1, 1) := by decide +kernel
theorem dL_law_1738 : decode cL_law 1738 = .ok (.aload_n 0, 1) := by decide +kernel
theorem dL_law_1739 : decode cL_law 1739 = .ok (.iload 4, 2) := by decide +kernel
theorem dL_law_1741 : decode cL_law 1741 = .ok (.iconst 1, 1) := by decide +kernel
theorem dL_law_1742 : decode cL_law 1742 = .ok (.iadd, 1) := by decide +kernel
theorem dL_law_1743 : decode cL_law 1743 = .ok (.iaload, 1) := by decide +kernel
theorem dL_law_1744 : decode cL_law 1744 = .ok (.aload_n 0, 1) := by decide +kernel
theorem dL_law_1745 : decode cL_law 1745 = .ok (.iload 4, 2) := by decide +kernel
theorem dL_law_1747 : decode cL_law 1747 = .ok (.iconst 2, 1) := by decide +kernel
theorem dL_law_1748 : decode cL_law 1748 = .ok (.iadd, 1) := by decide +kernel
theorem dL_law_1749 : decode cL_law 1749 = .ok (.iaload, 1) := by decide +kernel
theorem dL_law_1750 : decode cL_law 1750 = .ok (.aload_n 0, 1) := by decide +kernel
theorem dL_law_1751 : decode cL_law 1751 = .ok (.iload 4, 2) := by decide +kernel
theorem dL_law_1753 : decode cL_law 1753 = .ok (.iconst 3, 1) := by decide +kernel
theorem dL_law_1754 : decode cL_law 1754 = .ok (.iadd, 1) := by decide +kernel
theorem dL_law_1755 : decode cL_law 1755 = .ok (.iaload, 1) := by decide +kernel
theorem dL_law_1756 : decode cL_law 1756 = .ok (.aload_n 3, 1) := by decide +kernel
theorem dL_law_1757 : decode cL_law 1757 = .ok (.invokestatic 191, 3) := by decide +kernel
theorem dL_law_1760 : decode cL_law 1760 = .ok (.istore 5, 2) := by decide +kernel
theorem dL_law_1762 : decode cL_law 1762 = .ok (.aload_n 2, 1) := by decide +kernel
theorem dL_law_1763 : decode cL_law 1763 = .ok (.aload_n 0, 1) := by decide +kernel
theorem dL_law_1764 : decode cL_law 1764 = .ok (.iload 4, 2) := by decide +kernel
theorem dL_law_1766 : decode cL_law 1766 = .ok (.iconst 1, 1) := by decide +kernel
theorem dL_law_1767 : decode cL_law 1767 = .ok (.iadd, 1) := by decide +kernel
theorem dL_law_1768 : decode cL_law 1768 = .ok (.iaload, 1) := by decide +kernel
theorem dL_law_1769 : decode cL_law 1769 = .ok (.aload_n 0, 1) := by decide +kernel
theorem dL_law_1770 : decode cL_law 1770 = .ok (.iload 4, 2) := by decide +kernel
theorem dL_law_1772 : decode cL_law 1772 = .ok (.iconst 2, 1) := by decide +kernel
theorem dL_law_1773 : decode cL_law 1773 = .ok (.iadd, 1) := by decide +kernel
theorem dL_law_1774 : decode cL_law 1774 = .ok (.iaload, 1) := by decide +kernel
theorem dL_law_1775 : decode cL_law 1775 = .ok (.aload_n 0, 1) := by decide +kernel
theorem dL_law_1776 : decode cL_law 1776 = .ok (.iload 4, 2) := by decide +kernel
theorem dL_law_1778 : decode cL_law 1778 = .ok (.iconst 3, 1) := by decide +kernel
theorem dL_law_1779 : decode cL_law 1779 = .ok (.iadd, 1) := by decide +kernel
theorem dL_law_1780 : decode cL_law 1780 = .ok (.iaload, 1) := by decide +kernel
theorem dL_law_1781 : decode cL_law 1781 = .ok (.invokevirtual 193, 3) := by decide +kernel
theorem dL_law_1784 : decode cL_law 1784 = .ok (.istore 6, 2) := by decide +kernel
theorem dL_law_1786 : decode cL_law 1786 = .ok (.aload_n 2, 1) := by decide +kernel
theorem dL_law_1787 : decode cL_law 1787 = .ok (.invokevirtual 112, 3) := by decide +kernel
theorem dL_law_1790 : decode cL_law 1790 = .ok (.iload 5, 2) := by decide +kernel
theorem dL_law_1792 : decode cL_law 1792 = .ok (.if_icmp .eq 5, 3) := by decide +kernel
theorem dL_law_1795 : decode cL_law 1795 = .ok (.iconst 0, 1) := by decide +kernel
theorem dL_law_1796 : decode cL_law 1796 = .ok (.ireturn, 1) := by decide +kernel
theorem dL_law_1797 : decode cL_law 1797 = .ok (.iload 5, 2) := by decide +kernel
theorem dL_law_1799 : decode cL_law 1799 = .ok (.ifCond .ne 15, 3) := by decide +kernel
theorem dL_law_1802 : decode cL_law 1802 = .ok (.aload_n 3, 1) := by decide +kernel
theorem dL_law_1803 : decode cL_law 1803 = .ok (.iconst 0, 1) := by decide +kernel
theorem dL_law_1804 : decode cL_law 1804 = .ok (.laload, 1) := by decide +kernel
theorem dL_law_1805 : decode cL_law 1805 = .ok (.iload 6, 2) := by decide +kernel
theorem dL_law_1807 : decode cL_law 1807 = .ok (.i2l, 1) := by decide +kernel
theorem dL_law_1808 : decode cL_law 1808 = .ok (.lcmp, 1) := by decide +kernel
theorem dL_law_1809 : decode cL_law 1809 = .ok (.ifCond .eq 5, 3) := by decide +kernel
theorem dL_law_1812 : decode cL_law 1812 = .ok (.iconst 0, 1) := by decide +kernel
theorem dL_law_1813 : decode cL_law 1813 = .ok (.ireturn, 1) := by decide +kernel
theorem dL_law_1814 : decode cL_law 1814 = .ok (.goto 462, 3) := by decide +kernel
theorem dL_law_1817 : decode cL_law 1817 = .ok (.aload_n 1, 1) := by decide +kernel
theorem dL_law_1818 : decode cL_law 1818 = .ok (.aload_n 0, 1) := by decide +kernel
theorem dL_law_1819 : decode cL_law 1819 = .ok (.iload 4, 2) := by decide +kernel
theorem dL_law_1821 : decode cL_law 1821 = .ok (.iconst 1, 1) := by decide +kernel
theorem dL_law_1822 : decode cL_law 1822 = .ok (.iadd, 1) := by decide +kernel
theorem dL_law_1823 : decode cL_law 1823 = .ok (.iaload, 1) := by decide +kernel
theorem dL_law_1824 : decode cL_law 1824 = .ok (.aload_n 0, 1) := by decide +kernel
theorem dL_law_1825 : decode cL_law 1825 = .ok (.iload 4, 2) := by decide +kernel
theorem dL_law_1827 : decode cL_law 1827 = .ok (.iconst 2, 1) := by decide +kernel
theorem dL_law_1828 : decode cL_law 1828 = .ok (.iadd, 1) := by decide +kernel
theorem dL_law_1829 : decode cL_law 1829 = .ok (.iaload, 1) := by decide +kernel
theorem dL_law_1830 : decode cL_law 1830 = .ok (.aload_n 3, 1) := by decide +kernel
theorem dL_law_1831 : decode cL_law 1831 = .ok (.invokestatic 194, 3) := by decide +kernel
theorem dL_law_1834 : decode cL_law 1834 = .ok (.istore 5, 2) := by decide +kernel
theorem dL_law_1836 : decode cL_law 1836 = .ok (.aload_n 2, 1) := by decide +kernel
theorem dL_law_1837 : decode cL_law 1837 = .ok (.aload_n 0, 1) := by decide +kernel
theorem dL_law_1838 : decode cL_law 1838 = .ok (.iload 4, 2) := by decide +kernel
theorem dL_law_1840 : decode cL_law 1840 = .ok (.iconst 1, 1) := by decide +kernel
theorem dL_law_1841 : decode cL_law 1841 = .ok (.iadd, 1) := by decide +kernel
theorem dL_law_1842 : decode cL_law 1842 = .ok (.iaload, 1) := by decide +kernel
theorem dL_law_1843 : decode cL_law 1843 = .ok (.aload_n 0, 1) := by decide +kernel
theorem dL_law_1844 : decode cL_law 1844 = .ok (.iload 4, 2) := by decide +kernel
theorem dL_law_1846 : decode cL_law 1846 = .ok (.iconst 2, 1) := by decide +kernel
theorem dL_law_1847 : decode cL_law 1847 = .ok (.iadd, 1) := by decide +kernel
theorem dL_law_1848 : decode cL_law 1848 = .ok (.iaload, 1) := by decide +kernel
theorem dL_law_1849 : decode cL_law 1849 = .ok (.invokevirtual 196, 3) := by decide +kernel
theorem dL_law_1852 : decode cL_law 1852 = .ok (.istore 6, 2) := by decide +kernel
theorem dL_law_1854 : decode cL_law 1854 = .ok (.aload_n 2, 1) := by decide +kernel
theorem dL_law_1855 : decode cL_law 1855 = .ok (.invokevirtual 112, 3) := by decide +kernel
theorem dL_law_1858 : decode cL_law 1858 = .ok (.iload 5, 2) := by decide +kernel
theorem dL_law_1860 : decode cL_law 1860 = .ok (.if_icmp .eq 5, 3) := by decide +kernel
theorem dL_law_1863 : decode cL_law 1863 = .ok (.iconst 0, 1) := by decide +kernel
theorem dL_law_1864 : decode cL_law 1864 = .ok (.ireturn, 1) := by decide +kernel
theorem dL_law_1865 : decode cL_law 1865 = .ok (.iload 5, 2) := by decide +kernel
theorem dL_law_1867 : decode cL_law 1867 = .ok (.ifCond .ne 15, 3) := by decide +kernel
theorem dL_law_1870 : decode cL_law 1870 = .ok (.aload_n 3, 1) := by decide +kernel
theorem dL_law_1871 : decode cL_law 1871 = .ok (.iconst 0, 1) := by decide +kernel
theorem dL_law_1872 : decode cL_law 1872 = .ok (.laload, 1) := by decide +kernel
theorem dL_law_1873 : decode cL_law 1873 = .ok (.iload 6, 2) := by decide +kernel
theorem dL_law_1875 : decode cL_law 1875 = .ok (.i2l, 1) := by decide +kernel
theorem dL_law_1876 : decode cL_law 1876 = .ok (.lcmp, 1) := by decide +kernel
theorem dL_law_1877 : decode cL_law 1877 = .ok (.ifCond .eq 5, 3) := by decide +kernel
theorem dL_law_1880 : decode cL_law 1880 = .ok (.iconst 0, 1) := by decide +kernel
theorem dL_law_1881 : decode cL_law 1881 = .ok (.ireturn, 1) := by decide +kernel
theorem dL_law_1882 : decode cL_law 1882 = .ok (.goto 394, 3) := by decide +kernel
theorem dL_law_1885 : decode cL_law 1885 = .ok (.aload_n 1, 1) := by decide +kernel
theorem dL_law_1886 : decode cL_law 1886 = .ok (.aload_n 0, 1) := by decide +kernel
theorem dL_law_1887 : decode cL_law 1887 = .ok (.iload 4, 2) := by decide +kernel
theorem dL_law_1889 : decode cL_law 1889 = .ok (.iconst 1, 1) := by decide +kernel
theorem dL_law_1890 : decode cL_law 1890 = .ok (.iadd, 1) := by decide +kernel
theorem dL_law_1891 : decode cL_law 1891 = .ok (.iaload, 1) := by decide +kernel
theorem dL_law_1892 : decode cL_law 1892 = .ok (.aload_n 0, 1) := by decide +kernel
theorem dL_law_1893 : decode cL_law 1893 = .ok (.iload 4, 2) := by decide +kernel
theorem dL_law_1895 : decode cL_law 1895 = .ok (.iconst 2, 1) := by decide +kernel
theorem dL_law_1896 : decode cL_law 1896 = .ok (.iadd, 1) := by decide +kernel
theorem dL_law_1897 : decode cL_law 1897 = .ok (.iaload, 1) := by decide +kernel
theorem dL_law_1898 : decode cL_law 1898 = .ok (.aload_n 0, 1) := by decide +kernel
theorem dL_law_1899 : decode cL_law 1899 = .ok (.iload 4, 2) := by decide +kernel
theorem dL_law_1901 : decode cL_law 1901 = .ok (.iconst 3, 1) := by decide +kernel
theorem dL_law_1902 : decode cL_law 1902 = .ok (.iadd, 1) := by decide +kernel
theorem dL_law_1903 : decode cL_law 1903 = .ok (.iaload, 1) := by decide +kernel
theorem dL_law_1904 : decode cL_law 1904 = .ok (.aload_n 3, 1) := by decide +kernel
theorem dL_law_1905 : decode cL_law 1905 = .ok (.invokestatic 197, 3) := by decide +kernel
theorem dL_law_1908 : decode cL_law 1908 = .ok (.istore 5, 2) := by decide +kernel
theorem dL_law_1910 : decode cL_law 1910 = .ok (.aload_n 2, 1) := by decide +kernel
theorem dL_law_1911 : decode cL_law 1911 = .ok (.aload_n 0, 1) := by decide +kernel
theorem dL_law_1912 : decode cL_law 1912 = .ok (.iload 4, 2) := by decide +kernel
theorem dL_law_1914 : decode cL_law 1914 = .ok (.iconst 1, 1) := by decide +kernel
theorem dL_law_1915 : decode cL_law 1915 = .ok (.iadd, 1) := by decide +kernel
theorem dL_law_1916 : decode cL_law 1916 = .ok (.iaload, 1) := by decide +kernel
theorem dL_law_1917 : decode cL_law 1917 = .ok (.aload_n 0, 1) := by decide +kernel
theorem dL_law_1918 : decode cL_law 1918 = .ok (.iload 4, 2) := by decide +kernel
theorem dL_law_1920 : decode cL_law 1920 = .ok (.iconst 2, 1) := by decide +kernel
theorem dL_law_1921 : decode cL_law 1921 = .ok (.iadd, 1) := by decide +kernel
theorem dL_law_1922 : decode cL_law 1922 = .ok (.iaload, 1) := by decide +kernel
theorem dL_law_1923 : decode cL_law 1923 = .ok (.aload_n 0, 1) := by decide +kernel
theorem dL_law_1924 : decode cL_law 1924 = .ok (.iload 4, 2) := by decide +kernel
theorem dL_law_1926 : decode cL_law 1926 = .ok (.iconst 3, 1) := by decide +kernel
theorem dL_law_1927 : decode cL_law 1927 = .ok (.iadd, 1) := by decide +kernel
theorem dL_law_1928 : decode cL_law 1928 = .ok (.iaload, 1) := by decide +kernel
theorem dL_law_1929 : decode cL_law 1929 = .ok (.invokevirtual 199, 3) := by decide +kernel
theorem dL_law_1932 : decode cL_law 1932 = .ok (.istore 6, 2) := by decide +kernel
theorem dL_law_1934 : decode cL_law 1934 = .ok (.aload_n 2, 1) := by decide +kernel
theorem dL_law_1935 : decode cL_law 1935 = .ok (.invokevirtual 112, 3) := by decide +kernel
theorem dL_law_1938 : decode cL_law 1938 = .ok (.iload 5, 2) := by decide +kernel
theorem dL_law_1940 : decode cL_law 1940 = .ok (.if_icmp .eq 5, 3) := by decide +kernel
theorem dL_law_1943 : decode cL_law 1943 = .ok (.iconst 0, 1) := by decide +kernel
theorem dL_law_1944 : decode cL_law 1944 = .ok (.ireturn, 1) := by decide +kernel
theorem dL_law_1945 : decode cL_law 1945 = .ok (.iload 5, 2) := by decide +kernel
theorem dL_law_1947 : decode cL_law 1947 = .ok (.ifCond .ne 15, 3) := by decide +kernel
theorem dL_law_1950 : decode cL_law 1950 = .ok (.aload_n 3, 1) := by decide +kernel
theorem dL_law_1951 : decode cL_law 1951 = .ok (.iconst 0, 1) := by decide +kernel
theorem dL_law_1952 : decode cL_law 1952 = .ok (.laload, 1) := by decide +kernel
theorem dL_law_1953 : decode cL_law 1953 = .ok (.iload 6, 2) := by decide +kernel
theorem dL_law_1955 : decode cL_law 1955 = .ok (.i2l, 1) := by decide +kernel
theorem dL_law_1956 : decode cL_law 1956 = .ok (.lcmp, 1) := by decide +kernel
theorem dL_law_1957 : decode cL_law 1957 = .ok (.ifCond .eq 5, 3) := by decide +kernel
theorem dL_law_1960 : decode cL_law 1960 = .ok (.iconst 0, 1) := by decide +kernel
theorem dL_law_1961 : decode cL_law 1961 = .ok (.ireturn, 1) := by decide +kernel
theorem dL_law_1962 : decode cL_law 1962 = .ok (.goto 314, 3) := by decide +kernel
theorem dL_law_1965 : decode cL_law 1965 = .ok (.aload_n 1, 1) := by decide +kernel
theorem dL_law_1966 : decode cL_law 1966 = .ok (.aload_n 0, 1) := by decide +kernel
theorem dL_law_1967 : decode cL_law 1967 = .ok (.iload 4, 2) := by decide +kernel
theorem dL_law_1969 : decode cL_law 1969 = .ok (.iconst 1, 1) := by decide +kernel
theorem dL_law_1970 : decode cL_law 1970 = .ok (.iadd, 1) := by decide +kernel
theorem dL_law_1971 : decode cL_law 1971 = .ok (.iaload, 1) := by decide +kernel
theorem dL_law_1972 : decode cL_law 1972 = .ok (.aload_n 0, 1) := by decide +kernel
theorem dL_law_1973 : decode cL_law 1973 = .ok (.iload 4, 2) := by decide +kernel
theorem dL_law_1975 : decode cL_law 1975 = .ok (.iconst 2, 1) := by decide +kernel
theorem dL_law_1976 : decode cL_law 1976 = .ok (.iadd, 1) := by decide +kernel
theorem dL_law_1977 : decode cL_law 1977 = .ok (.iaload, 1) := by decide +kernel
theorem dL_law_1978 : decode cL_law 1978 = .ok (.aload_n 3, 1) := by decide +kernel
theorem dL_law_1979 : decode cL_law 1979 = .ok (.invokestatic 200, 3) := by decide +kernel
theorem dL_law_1982 : decode cL_law 1982 = .ok (.istore 5, 2) := by decide +kernel
theorem dL_law_1984 : decode cL_law 1984 = .ok (.aload_n 2, 1) := by decide +kernel
theorem dL_law_1985 : decode cL_law 1985 = .ok (.aload_n 0, 1) := by decide +kernel
theorem dL_law_1986 : decode cL_law 1986 = .ok (.iload 4, 2) := by decide +kernel
theorem dL_law_1988 : decode cL_law 1988 = .ok (.iconst 1, 1) := by decide +kernel
theorem dL_law_1989 : decode cL_law 1989 = .ok (.iadd, 1) := by decide +kernel
theorem dL_law_1990 : decode cL_law 1990 = .ok (.iaload, 1) := by decide +kernel
theorem dL_law_1991 : decode cL_law 1991 = .ok (.aload_n 0, 1) := by decide +kernel
theorem dL_law_1992 : decode cL_law 1992 = .ok (.iload 4, 2) := by decide +kernel
theorem dL_law_1994 : decode cL_law 1994 = .ok (.iconst 2, 1) := by decide +kernel
theorem dL_law_1995 : decode cL_law 1995 = .ok (.iadd, 1) := by decide +kernel
theorem dL_law_1996 : decode cL_law 1996 = .ok (.iaload, 1) := by decide +kernel
theorem dL_law_1997 : decode cL_law 1997 = .ok (.invokevirtual 202, 3) := by decide +kernel
theorem dL_law_2000 : decode cL_law 2000 = .ok (.istore 6, 2) := by decide +kernel
theorem dL_law_2002 : decode cL_law 2002 = .ok (.aload_n 2, 1) := by decide +kernel
theorem dL_law_2003 : decode cL_law 2003 = .ok (.invokevirtual 112, 3) := by decide +kernel
theorem dL_law_2006 : decode cL_law 2006 = .ok (.iload 5, 2) := by decide +kernel
theorem dL_law_2008 : decode cL_law 2008 = .ok (.if_icmp .eq 5, 3) := by decide +kernel
theorem dL_law_2011 : decode cL_law 2011 = .ok (.iconst 0, 1) := by decide +kernel
theorem dL_law_2012 : decode cL_law 2012 = .ok (.ireturn, 1) := by decide +kernel
theorem dL_law_2013 : decode cL_law 2013 = .ok (.iload 5, 2) := by decide +kernel
theorem dL_law_2015 : decode cL_law 2015 = .ok (.ifCond .ne 15, 3) := by decide +kernel
theorem dL_law_2018 : decode cL_law 2018 = .ok (.aload_n 3, 1) := by decide +kernel
theorem dL_law_2019 : decode cL_law 2019 = .ok (.iconst 0, 1) := by decide +kernel
theorem dL_law_2020 : decode cL_law 2020 = .ok (.laload, 1) := by decide +kernel
theorem dL_law_2021 : decode cL_law 2021 = .ok (.iload 6, 2) := by decide +kernel
theorem dL_law_2023 : decode cL_law 2023 = .ok (.i2l, 1) := by decide +kernel
theorem dL_law_2024 : decode cL_law 2024 = .ok (.lcmp, 1) := by decide +kernel
theorem dL_law_2025 : decode cL_law 2025 = .ok (.ifCond .eq 5, 3) := by decide +kernel
theorem dL_law_2028 : decode cL_law 2028 = .ok (.iconst 0, 1) := by decide +kernel
theorem dL_law_2029 : decode cL_law 2029 = .ok (.ireturn, 1) := by decide +kernel
theorem dL_law_2030 : decode cL_law 2030 = .ok (.goto 246, 3) := by decide +kernel
theorem dL_law_2033 : decode cL_law 2033 = .ok (.aload_n 1, 1) := by decide +kernel
theorem dL_law_2034 : decode cL_law 2034 = .ok (.aload_n 0, 1) := by decide +kernel
theorem dL_law_2035 : decode cL_law 2035 = .ok (.iload 4, 2) := by decide +kernel
theorem dL_law_2037 : decode cL_law 2037 = .ok (.iconst 1, 1) := by decide +kernel
theorem dL_law_2038 : decode cL_law 2038 = .ok (.iadd, 1) := by decide +kernel
theorem dL_law_2039 : decode cL_law 2039 = .ok (.iaload, 1) := by decide +kernel
theorem dL_law_2040 : decode cL_law 2040 = .ok (.aload_n 3, 1) := by decide +kernel
theorem dL_law_2041 : decode cL_law 2041 = .ok (.invokestatic 203, 3) := by decide +kernel
theorem dL_law_2044 : decode cL_law 2044 = .ok (.istore 5, 2) := by decide +kernel
theorem dL_law_2046 : decode cL_law 2046 = .ok (.aload_n 2, 1) := by decide +kernel
theorem dL_law_2047 : decode cL_law 2047 = .ok (.aload_n 0, 1) := by decide +kernel
theorem dL_law_2048 : decode cL_law 2048 = .ok (.iload 4, 2) := by decide +kernel
theorem dL_law_2050 : decode cL_law 2050 = .ok (.iconst 1, 1) := by decide +kernel
theorem dL_law_2051 : decode cL_law 2051 = .ok (.iadd, 1) := by decide +kernel
theorem dL_law_2052 : decode cL_law 2052 = .ok (.iaload, 1) := by decide +kernel
theorem dL_law_2053 : decode cL_law 2053 = .ok (.invokevirtual 205, 3) := by decide +kernel
theorem dL_law_2056 : decode cL_law 2056 = .ok (.istore 6, 2) := by decide +kernel
theorem dL_law_2058 : decode cL_law 2058 = .ok (.aload_n 2, 1) := by decide +kernel
theorem dL_law_2059 : decode cL_law 2059 = .ok (.invokevirtual 112, 3) := by decide +kernel
theorem dL_law_2062 : decode cL_law 2062 = .ok (.iload 5, 2) := by decide +kernel
theorem dL_law_2064 : decode cL_law 2064 = .ok (.if_icmp .eq 5, 3) := by decide +kernel
theorem dL_law_2067 : decode cL_law 2067 = .ok (.iconst 0, 1) := by decide +kernel
theorem dL_law_2068 : decode cL_law 2068 = .ok (.ireturn, 1) := by decide +kernel
theorem dL_law_2069 : decode cL_law 2069 = .ok (.iload 5, 2) := by decide +kernel
theorem dL_law_2071 : decode cL_law 2071 = .ok (.ifCond .ne 15, 3) := by decide +kernel
theorem dL_law_2074 : decode cL_law 2074 = .ok (.aload_n 3, 1) := by decide +kernel
theorem dL_law_2075 : decode cL_law 2075 = .ok (.iconst 0, 1) := by decide +kernel
theorem dL_law_2076 : decode cL_law 2076 = .ok (.laload, 1) := by decide +kernel
theorem dL_law_2077 : decode cL_law 2077 = .ok (.iload 6, 2) := by decide +kernel
theorem dL_law_2079 : decode cL_law 2079 = .ok (.i2l, 1) := by decide +kernel
theorem dL_law_2080 : decode cL_law 2080 = .ok (.lcmp, 1) := by decide +kernel
theorem dL_law_2081 : decode cL_law 2081 = .ok (.ifCond .eq 5, 3) := by decide +kernel
theorem dL_law_2084 : decode cL_law 2084 = .ok (.iconst 0, 1) := by decide +kernel
theorem dL_law_2085 : decode cL_law 2085 = .ok (.ireturn, 1) := by decide +kernel
theorem dL_law_2086 : decode cL_law 2086 = .ok (.goto 190, 3) := by decide +kernel
theorem dL_law_2089 : decode cL_law 2089 = .ok (.aload_n 1, 1) := by decide +kernel
theorem dL_law_2090 : decode cL_law 2090 = .ok (.aload_n 0, 1) := by decide +kernel
theorem dL_law_2091 : decode cL_law 2091 = .ok (.iload 4, 2) := by decide +kernel
theorem dL_law_2093 : decode cL_law 2093 = .ok (.iconst 1, 1) := by decide +kernel
theorem dL_law_2094 : decode cL_law 2094 = .ok (.iadd, 1) := by decide +kernel
theorem dL_law_2095 : decode cL_law 2095 = .ok (.iaload, 1) := by decide +kernel
theorem dL_law_2096 : decode cL_law 2096 = .ok (.aload_n 3, 1) := by decide +kernel
theorem dL_law_2097 : decode cL_law 2097 = .ok (.invokestatic 206, 3) := by decide +kernel
theorem dL_law_2100 : decode cL_law 2100 = .ok (.istore 5, 2) := by decide +kernel
theorem dL_law_2102 : decode cL_law 2102 = .ok (.aload_n 2, 1) := by decide +kernel
theorem dL_law_2103 : decode cL_law 2103 = .ok (.aload_n 0, 1) := by decide +kernel
theorem dL_law_2104 : decode cL_law 2104 = .ok (.iload 4, 2) := by decide +kernel
theorem dL_law_2106 : decode cL_law 2106 = .ok (.iconst 1, 1) := by decide +kernel
theorem dL_law_2107 : decode cL_law 2107 = .ok (.iadd, 1) := by decide +kernel
theorem dL_law_2108 : decode cL_law 2108 = .ok (.iaload, 1) := by decide +kernel
theorem dL_law_2109 : decode cL_law 2109 = .ok (.invokevirtual 208, 3) := by decide +kernel
theorem dL_law_2112 : decode cL_law 2112 = .ok (.istore 6, 2) := by decide +kernel
theorem dL_law_2114 : decode cL_law 2114 = .ok (.aload_n 2, 1) := by decide +kernel
theorem dL_law_2115 : decode cL_law 2115 = .ok (.invokevirtual 112, 3) := by decide +kernel
theorem dL_law_2118 : decode cL_law 2118 = .ok (.iload 5, 2) := by decide +kernel
theorem dL_law_2120 : decode cL_law 2120 = .ok (.if_icmp .eq 5, 3) := by decide +kernel
theorem dL_law_2123 : decode cL_law 2123 = .ok (.iconst 0, 1) := by decide +kernel
theorem dL_law_2124 : decode cL_law 2124 = .ok (.ireturn, 1) := by decide +kernel
theorem dL_law_2125 : decode cL_law 2125 = .ok (.iload 5, 2) := by decide +kernel
theorem dL_law_2127 : decode cL_law 2127 = .ok (.ifCond .ne 15, 3) := by decide +kernel
theorem dL_law_2130 : decode cL_law 2130 = .ok (.aload_n 3, 1) := by decide +kernel
theorem dL_law_2131 : decode cL_law 2131 = .ok (.iconst 0, 1) := by decide +kernel
theorem dL_law_2132 : decode cL_law 2132 = .ok (.laload, 1) := by decide +kernel
theorem dL_law_2133 : decode cL_law 2133 = .ok (.iload 6, 2) := by decide +kernel
theorem dL_law_2135 : decode cL_law 2135 = .ok (.i2l, 1) := by decide +kernel
theorem dL_law_2136 : decode cL_law 2136 = .ok (.lcmp, 1) := by decide +kernel
theorem dL_law_2137 : decode cL_law 2137 = .ok (.ifCond .eq 5, 3) := by decide +kernel
theorem dL_law_2140 : decode cL_law 2140 = .ok (.iconst 0, 1) := by decide +kernel
theorem dL_law_2141 : decode cL_law 2141 = .ok (.ireturn, 1) := by decide +kernel
theorem dL_law_2142 : decode cL_law 2142 = .ok (.goto 134, 3) := by decide +kernel
theorem dL_law_2145 : decode cL_law 2145 = .ok (.aload_n 1, 1) := by decide +kernel
theorem dL_law_2146 : decode cL_law 2146 = .ok (.aload_n 0, 1) := by decide +kernel
theorem dL_law_2147 : decode cL_law 2147 = .ok (.iload 4, 2) := by decide +kernel
theorem dL_law_2149 : decode cL_law 2149 = .ok (.iconst 1, 1) := by decide +kernel
theorem dL_law_2150 : decode cL_law 2150 = .ok (.iadd, 1) := by decide +kernel
theorem dL_law_2151 : decode cL_law 2151 = .ok (.iaload, 1) := by decide +kernel
theorem dL_law_2152 : decode cL_law 2152 = .ok (.invokevirtual 209, 3) := by decide +kernel
theorem dL_law_2155 : decode cL_law 2155 = .ok (.aload_n 2, 1) := by decide +kernel
theorem dL_law_2156 : decode cL_law 2156 = .ok (.aload_n 0, 1) := by decide +kernel
theorem dL_law_2157 : decode cL_law 2157 = .ok (.iload 4, 2) := by decide +kernel
theorem dL_law_2159 : decode cL_law 2159 = .ok (.iconst 1, 1) := by decide +kernel
theorem dL_law_2160 : decode cL_law 2160 = .ok (.iadd, 1) := by decide +kernel
theorem dL_law_2161 : decode cL_law 2161 = .ok (.iaload, 1) := by decide +kernel
theorem dL_law_2162 : decode cL_law 2162 = .ok (.invokevirtual 212, 3) := by decide +kernel
theorem dL_law_2165 : decode cL_law 2165 = .ok (.if_icmp .eq 111, 3) := by decide +kernel
theorem dL_law_2168 : decode cL_law 2168 = .ok (.iconst 0, 1) := by decide +kernel
theorem dL_law_2169 : decode cL_law 2169 = .ok (.ireturn, 1) := by decide +kernel
theorem dL_law_2170 : decode cL_law 2170 = .ok (.aload_n 1, 1) := by decide +kernel
theorem dL_law_2171 : decode cL_law 2171 = .ok (.invokevirtual 213, 3) := by decide +kernel
theorem dL_law_2174 : decode cL_law 2174 = .ok (.aload_n 2, 1) := by decide +kernel
theorem dL_law_2175 : decode cL_law 2175 = .ok (.invokevirtual 216, 3) := by decide +kernel
theorem dL_law_2178 : decode cL_law 2178 = .ok (.if_icmp .eq 98, 3) := by decide +kernel
theorem dL_law_2181 : decode cL_law 2181 = .ok (.iconst 0, 1) := by decide +kernel
theorem dL_law_2182 : decode cL_law 2182 = .ok (.ireturn, 1) := by decide +kernel
theorem dL_law_2183 : decode cL_law 2183 = .ok (.aload_n 1, 1) := by decide +kernel
theorem dL_law_2184 : decode cL_law 2184 = .ok (.invokevirtual 217, 3) := by decide +kernel
theorem dL_law_2187 : decode cL_law 2187 = .ok (.aload_n 2, 1) := by decide +kernel
theorem dL_law_2188 : decode cL_law 2188 = .ok (.invokevirtual 220, 3) := by decide +kernel
theorem dL_law_2191 : decode cL_law 2191 = .ok (.if_icmp .eq 85, 3) := by decide +kernel
theorem dL_law_2194 : decode cL_law 2194 = .ok (.iconst 0, 1) := by decide +kernel
theorem dL_law_2195 : decode cL_law 2195 = .ok (.ireturn, 1) := by decide +kernel
theorem dL_law_2196 : decode cL_law 2196 = .ok (.aload_n 1, 1) := by decide +kernel
theorem dL_law_2197 : decode cL_law 2197 = .ok (.invokevirtual 221, 3) := by decide +kernel
theorem dL_law_2200 : decode cL_law 2200 = .ok (.aload_n 2, 1) := by decide +kernel
theorem dL_law_2201 : decode cL_law 2201 = .ok (.invokevirtual 224, 3) := by decide +kernel
theorem dL_law_2204 : decode cL_law 2204 = .ok (.goto 72, 3) := by decide +kernel
theorem dL_law_2207 : decode cL_law 2207 = .ok (.aload_n 1, 1) := by decide +kernel
theorem dL_law_2208 : decode cL_law 2208 = .ok (.invokevirtual 225, 3) := by decide +kernel
theorem dL_law_2211 : decode cL_law 2211 = .ok (.aload_n 2, 1) := by decide +kernel
theorem dL_law_2212 : decode cL_law 2212 = .ok (.invokevirtual 229, 3) := by decide +kernel
theorem dL_law_2215 : decode cL_law 2215 = .ok (.if_icmp .eq 61, 3) := by decide +kernel
theorem dL_law_2218 : decode cL_law 2218 = .ok (.iconst 0, 1) := by decide +kernel
theorem dL_law_2219 : decode cL_law 2219 = .ok (.ireturn, 1) := by decide +kernel
theorem dL_law_2220 : decode cL_law 2220 = .ok (.aload_n 1, 1) := by decide +kernel
theorem dL_law_2221 : decode cL_law 2221 = .ok (.aload_n 0, 1) := by decide +kernel
theorem dL_law_2222 : decode cL_law 2222 = .ok (.iload 4, 2) := by decide +kernel
theorem dL_law_2224 : decode cL_law 2224 = .ok (.iconst 1, 1) := by decide +kernel
theorem dL_law_2225 : decode cL_law 2225 = .ok (.iadd, 1) := by decide +kernel
theorem dL_law_2226 : decode cL_law 2226 = .ok (.iaload, 1) := by decide +kernel
theorem dL_law_2227 : decode cL_law 2227 = .ok (.aload_n 3, 1) := by decide +kernel
theorem dL_law_2228 : decode cL_law 2228 = .ok (.invokestatic 230, 3) := by decide +kernel
theorem dL_law_2231 : decode cL_law 2231 = .ok (.istore 5, 2) := by decide +kernel
theorem dL_law_2233 : decode cL_law 2233 = .ok (.aload_n 2, 1) := by decide +kernel
theorem dL_law_2234 : decode cL_law 2234 = .ok (.aload_n 0, 1) := by decide +kernel
theorem dL_law_2235 : decode cL_law 2235 = .ok (.iload 4, 2) := by decide +kernel
theorem dL_law_2237 : decode cL_law 2237 = .ok (.iconst 1, 1) := by decide +kernel
theorem dL_law_2238 : decode cL_law 2238 = .ok (.iadd, 1) := by decide +kernel
theorem dL_law_2239 : decode cL_law 2239 = .ok (.iaload, 1) := by decide +kernel
theorem dL_law_2240 : decode cL_law 2240 = .ok (.invokevirtual 232, 3) := by decide +kernel
theorem dL_law_2243 : decode cL_law 2243 = .ok (.istore 6, 2) := by decide +kernel
theorem dL_law_2245 : decode cL_law 2245 = .ok (.aload_n 2, 1) := by decide +kernel
theorem dL_law_2246 : decode cL_law 2246 = .ok (.invokevirtual 112, 3) := by decide +kernel
theorem dL_law_2249 : decode cL_law 2249 = .ok (.iload 5, 2) := by decide +kernel
theorem dL_law_2251 : decode cL_law 2251 = .ok (.if_icmp .eq 5, 3) := by decide +kernel
theorem dL_law_2254 : decode cL_law 2254 = .ok (.iconst 0, 1) := by decide +kernel
theorem dL_law_2255 : decode cL_law 2255 = .ok (.ireturn, 1) := by decide +kernel
theorem dL_law_2256 : decode cL_law 2256 = .ok (.iload 5, 2) := by decide +kernel
theorem dL_law_2258 : decode cL_law 2258 = .ok (.ifCond .ne 15, 3) := by decide +kernel
theorem dL_law_2261 : decode cL_law 2261 = .ok (.aload_n 3, 1) := by decide +kernel
theorem dL_law_2262 : decode cL_law 2262 = .ok (.iconst 0, 1) := by decide +kernel
theorem dL_law_2263 : decode cL_law 2263 = .ok (.laload, 1) := by decide +kernel
theorem dL_law_2264 : decode cL_law 2264 = .ok (.iload 6, 2) := by decide +kernel
theorem dL_law_2266 : decode cL_law 2266 = .ok (.i2l, 1) := by decide +kernel
theorem dL_law_2267 : decode cL_law 2267 = .ok (.lcmp, 1) := by decide +kernel
theorem dL_law_2268 : decode cL_law 2268 = .ok (.ifCond .eq 5, 3) := by decide +kernel
theorem dL_law_2271 : decode cL_law 2271 = .ok (.iconst 0, 1) := by decide +kernel
theorem dL_law_2272 : decode cL_law 2272 = .ok (.ireturn, 1) := by decide +kernel
theorem dL_law_2273 : decode cL_law 2273 = .ok (.goto 3, 3) := by decide +kernel
theorem dL_law_2276 : decode cL_law 2276 = .ok (.iinc 4 6, 3) := by decide +kernel
theorem dL_law_2279 : decode cL_law 2279 = .ok (.goto (-2256), 3) := by decide +kernel
theorem dL_law_2282 : decode cL_law 2282 = .ok (.iconst 1, 1) := by decide +kernel
theorem dL_law_2283 : decode cL_law 2283 = .ok (.ireturn, 1) := by decide +kernel
