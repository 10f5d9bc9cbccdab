theorem dX8_in_0 : decode cX8_in 0 = .ok (.iload_n 0, 1) := by decide +kernel
theorem dX8_in_1 : decode cX8_in 1 = .ok (.iload_n 1, 1) := by decide +kernel
theorem dX8_in_2 : decode cX8_in 2 = .ok (.if_icmp .lt 12, 3) := by decide +kernel
theorem dX8_in_5 : decode cX8_in 5 = .ok (.iload_n 0, 1) := by decide +kernel
theorem dX8_in_6 : decode cX8_in 6 = .ok (.iload_n 2, 1) := by decide +kernel
theorem dX8_in_7 : decode cX8_in 7 = .ok (.if_icmp .gt 7, 3) := by decide +kernel
theorem dX8_in_10 : decode cX8_in 10 = .ok (.iconst 1, 1) := by decide +kernel
theorem dX8_in_11 : decode cX8_in 11 = .ok (.goto 4, 3) := by decide +kernel
theorem dX8_in_14 : decode cX8_in 14 = .ok (.iconst 0, 1) := by decide +kernel
theorem dX8_in_15 : decode cX8_in 15 = .ok (.ireturn, 1) := by decide +kernel
theorem dX8_has_0 : decode cX8_has 0 = .ok (.iload_n 0, 1) := by decide +kernel
theorem dX8_has_1 : decode cX8_has 1 = .ok (.iload_n 1, 1) := by decide +kernel
theorem dX8_has_2 : decode cX8_has 2 = .ok (.ishr, 1) := by decide +kernel
theorem dX8_has_3 : decode cX8_has 3 = .ok (.iconst 1, 1) := by decide +kernel
theorem dX8_has_4 : decode cX8_has 4 = .ok (.iand, 1) := by decide +kernel
theorem dX8_has_5 : decode cX8_has 5 = .ok (.iconst 1, 1) := by decide +kernel
theorem dX8_has_6 : decode cX8_has 6 = .ok (.if_icmp .ne 7, 3) := by decide +kernel
theorem dX8_has_9 : decode cX8_has 9 = .ok (.iconst 1, 1) := by decide +kernel
theorem dX8_has_10 : decode cX8_has 10 = .ok (.goto 4, 3) := by decide +kernel
theorem dX8_has_13 : decode cX8_has 13 = .ok (.iconst 0, 1) := by decide +kernel
theorem dX8_has_14 : decode cX8_has 14 = .ok (.ireturn, 1) := by decide +kernel
theorem dX8_byteAt_0 : decode cX8_byteAt 0 = .ok (.aload_n 0, 1) := by decide +kernel
theorem dX8_byteAt_1 : decode cX8_byteAt 1 = .ok (.getfield 7, 3) := by decide +kernel
theorem dX8_byteAt_4 : decode cX8_byteAt 4 = .ok (.iconst 0, 1) := by decide +kernel
theorem dX8_byteAt_5 : decode cX8_byteAt 5 = .ok (.iload_n 1, 1) := by decide +kernel
theorem dX8_byteAt_6 : decode cX8_byteAt 6 = .ok (.iadd, 1) := by decide +kernel
theorem dX8_byteAt_7 : decode cX8_byteAt 7 = .ok (.iaload, 1) := by decide +kernel
theorem dX8_byteAt_8 : decode cX8_byteAt 8 = .ok (.ireturn, 1) := by decide +kernel
theorem dX8_isWhole_0 : decode cX8_isWhole 0 = .ok (.aload_n 0, 1) := by decide +kernel
theorem dX8_isWhole_1 : decode cX8_isWhole 1 = .ok (.iload_n 1, 1) := by decide +kernel
theorem dX8_isWhole_2 : decode cX8_isWhole 2 = .ok (.invokevirtual 38, 3) := by decide +kernel
theorem dX8_isWhole_5 : decode cX8_isWhole 5 = .ok (.istore_n 2, 1) := by decide +kernel
theorem dX8_isWhole_6 : decode cX8_isWhole 6 = .ok (.aload_n 0, 1) := by decide +kernel
theorem dX8_isWhole_7 : decode cX8_isWhole 7 = .ok (.iload_n 2, 1) := by decide +kernel
theorem dX8_isWhole_8 : decode cX8_isWhole 8 = .ok (.iconst 4, 1) := by decide +kernel
theorem dX8_isWhole_9 : decode cX8_isWhole 9 = .ok (.irem, 1) := by decide +kernel
theorem dX8_isWhole_10 : decode cX8_isWhole 10 = .ok (.iconst 3, 1) := by decide +kernel
theorem dX8_isWhole_11 : decode cX8_isWhole 11 = .ok (.if_icmp .ne 7, 3) := by decide +kernel
theorem dX8_isWhole_14 : decode cX8_isWhole 14 = .ok (.iconst 4, 1) := by decide +kernel
theorem dX8_isWhole_15 : decode cX8_isWhole 15 = .ok (.goto 6, 3) := by decide +kernel
theorem dX8_isWhole_18 : decode cX8_isWhole 18 = .ok (.iload_n 2, 1) := by decide +kernel
theorem dX8_isWhole_19 : decode cX8_isWhole 19 = .ok (.iconst 4, 1) := by decide +kernel
theorem dX8_isWhole_20 : decode cX8_isWhole 20 = .ok (.irem, 1) := by decide +kernel
theorem dX8_isWhole_21 : decode cX8_isWhole 21 = .ok (.putfield 42, 3) := by decide +kernel
theorem dX8_isWhole_24 : decode cX8_isWhole 24 = .ok (.aload_n 0, 1) := by decide +kernel
theorem dX8_isWhole_25 : decode cX8_isWhole 25 = .ok (.iload_n 2, 1) := by decide +kernel
theorem dX8_isWhole_26 : decode cX8_isWhole 26 = .ok (.iconst 4, 1) := by decide +kernel
theorem dX8_isWhole_27 : decode cX8_isWhole 27 = .ok (.idiv, 1) := by decide +kernel
theorem dX8_isWhole_28 : decode cX8_isWhole 28 = .ok (.iconst 4, 1) := by decide +kernel
theorem dX8_isWhole_29 : decode cX8_isWhole 29 = .ok (.irem, 1) := by decide +kernel
theorem dX8_isWhole_30 : decode cX8_isWhole 30 = .ok (.putfield 46, 3) := by decide +kernel
theorem dX8_isWhole_33 : decode cX8_isWhole 33 = .ok (.aload_n 0, 1) := by decide +kernel
theorem dX8_isWhole_34 : decode cX8_isWhole 34 = .ok (.iload_n 2, 1) := by decide +kernel
theorem dX8_isWhole_35 : decode cX8_isWhole 35 = .ok (.bipush 16, 2) := by decide +kernel
theorem dX8_isWhole_37 : decode cX8_isWhole 37 = .ok (.idiv, 1) := by decide +kernel
theorem dX8_isWhole_38 : decode cX8_isWhole 38 = .ok (.putfield 49, 3) := by decide +kernel
theorem dX8_isWhole_41 : decode cX8_isWhole 41 = .ok (.iload_n 1, 1) := by decide +kernel
theorem dX8_isWhole_42 : decode cX8_isWhole 42 = .ok (.iconst 1, 1) := by decide +kernel
theorem dX8_isWhole_43 : decode cX8_isWhole 43 = .ok (.iadd, 1) := by decide +kernel
theorem dX8_isWhole_44 : decode cX8_isWhole 44 = .ok (.aload_n 0, 1) := by decide +kernel
theorem dX8_isWhole_45 : decode cX8_isWhole 45 = .ok (.getfield 42, 3) := by decide +kernel
theorem dX8_isWhole_48 : decode cX8_isWhole 48 = .ok (.iadd, 1) := by decide +kernel
theorem dX8_isWhole_49 : decode cX8_isWhole 49 = .ok (.aload_n 0, 1) := by decide +kernel
theorem dX8_isWhole_50 : decode cX8_isWhole 50 = .ok (.getfield 7, 3) := by decide +kernel
theorem dX8_isWhole_53 : decode cX8_isWhole 53 = .ok (.sipush 3285, 3) := by decide +kernel
theorem dX8_isWhole_56 : decode cX8_isWhole 56 = .ok (.iaload, 1) := by decide +kernel
theorem dX8_isWhole_57 : decode cX8_isWhole 57 = .ok (.if_icmp .le 5, 3) := by decide +kernel
theorem dX8_isWhole_60 : decode cX8_isWhole 60 = .ok (.iconst 0, 1) := by decide +kernel
theorem dX8_isWhole_61 : decode cX8_isWhole 61 = .ok (.ireturn, 1) := by decide +kernel
theorem dX8_isWhole_62 : decode cX8_isWhole 62 = .ok (.aload_n 0, 1) := by decide +kernel
theorem dX8_isWhole_63 : decode cX8_isWhole 63 = .ok (.iconst 0, 1) := by decide +kernel
theorem dX8_isWhole_64 : decode cX8_isWhole 64 = .ok (.putfield 52, 3) := by decide +kernel
theorem dX8_isWhole_67 : decode cX8_isWhole 67 = .ok (.aload_n 0, 1) := by decide +kernel
theorem dX8_isWhole_68 : decode cX8_isWhole 68 = .ok (.getfield 42, 3) := by decide +kernel
theorem dX8_isWhole_71 : decode cX8_isWhole 71 = .ok (.istore_n 3, 1) := by decide +kernel
theorem dX8_isWhole_72 : decode cX8_isWhole 72 = .ok (.iload_n 3, 1) := by decide +kernel
theorem dX8_isWhole_73 : decode cX8_isWhole 73 = .ok (.ifCond .le 28, 3) := by decide +kernel
theorem dX8_isWhole_76 : decode cX8_isWhole 76 = .ok (.aload_n 0, 1) := by decide +kernel
theorem dX8_isWhole_77 : decode cX8_isWhole 77 = .ok (.aload_n 0, 1) := by decide +kernel
theorem dX8_isWhole_78 : decode cX8_isWhole 78 = .ok (.getfield 52, 3) := by decide +kernel
theorem dX8_isWhole_81 : decode cX8_isWhole 81 = .ok (.bipush 8, 2) := by decide +kernel
theorem dX8_isWhole_83 : decode cX8_isWhole 83 = .ok (.ishl, 1) := by decide +kernel
theorem dX8_isWhole_84 : decode cX8_isWhole 84 = .ok (.aload_n 0, 1) := by decide +kernel
theorem dX8_isWhole_85 : decode cX8_isWhole 85 = .ok (.iload_n 1, 1) := by decide +kernel
theorem dX8_isWhole_86 : decode cX8_isWhole 86 = .ok (.iload_n 3, 1) := by decide +kernel
theorem dX8_isWhole_87 : decode cX8_isWhole 87 = .ok (.iadd, 1) := by decide +kernel
theorem dX8_isWhole_88 : decode cX8_isWhole 88 = .ok (.invokevirtual 38, 3) := by decide +kernel
theorem dX8_isWhole_91 : decode cX8_isWhole 91 = .ok (.ior, 1) := by decide +kernel
theorem dX8_isWhole_92 : decode cX8_isWhole 92 = .ok (.putfield 52, 3) := by decide +kernel
theorem dX8_isWhole_95 : decode cX8_isWhole 95 = .ok (.iinc 3 (-1), 3) := by decide +kernel
theorem dX8_isWhole_98 : decode cX8_isWhole 98 = .ok (.goto (-26), 3) := by decide +kernel
theorem dX8_isWhole_101 : decode cX8_isWhole 101 = .ok (.aload_n 0, 1) := by decide +kernel
theorem dX8_isWhole_102 : decode cX8_isWhole 102 = .ok (.aload_n 0, 1) := by decide +kernel
theorem dX8_isWhole_103 : decode cX8_isWhole 103 = .ok (.getfield 42, 3) := by decide +kernel
theorem dX8_isWhole_106 : decode cX8_isWhole 106 = .ok (.iconst 1, 1) := by decide +kernel
theorem dX8_isWhole_107 : decode cX8_isWhole 107 = .ok (.if_icmp .ne 23, 3) := by decide +kernel
theorem dX8_isWhole_110 : decode cX8_isWhole 110 = .ok (.aload_n 0, 1) := by decide +kernel
theorem dX8_isWhole_111 : decode cX8_isWhole 111 = .ok (.getfield 52, 3) := by decide +kernel
theorem dX8_isWhole_114 : decode cX8_isWhole 114 = .ok (.bipush 127, 2) := by decide +kernel
theorem dX8_isWhole_116 : decode cX8_isWhole 116 = .ok (.if_icmp .le 14, 3) := by decide +kernel
theorem dX8_isWhole_119 : decode cX8_isWhole 119 = .ok (.aload_n 0, 1) := by decide +kernel
theorem dX8_isWhole_120 : decode cX8_isWhole 120 = .ok (.getfield 52, 3) := by decide +kernel
theorem dX8_isWhole_123 : decode cX8_isWhole 123 = .ok (.sipush 256, 3) := by decide +kernel
theorem dX8_isWhole_126 : decode cX8_isWhole 126 = .ok (.isub, 1) := by decide +kernel
theorem dX8_isWhole_127 : decode cX8_isWhole 127 = .ok (.goto 35, 3) := by decide +kernel
theorem dX8_isWhole_130 : decode cX8_isWhole 130 = .ok (.aload_n 0, 1) := by decide +kernel
theorem dX8_isWhole_131 : decode cX8_isWhole 131 = .ok (.getfield 42, 3) := by decide +kernel
theorem dX8_isWhole_134 : decode cX8_isWhole 134 = .ok (.iconst 2, 1) := by decide +kernel
theorem dX8_isWhole_135 : decode cX8_isWhole 135 = .ok (.if_icmp .ne 23, 3) := by decide +kernel
theorem dX8_isWhole_138 : decode cX8_isWhole 138 = .ok (.aload_n 0, 1) := by decide +kernel
theorem dX8_isWhole_139 : decode cX8_isWhole 139 = .ok (.getfield 52, 3) := by decide +kernel
theorem dX8_isWhole_142 : decode cX8_isWhole 142 = .ok (.sipush 32767, 3) := by decide +kernel
theorem dX8_isWhole_145 : decode cX8_isWhole 145 = .ok (.if_icmp .le 13, 3) := by decide +kernel
theorem dX8_isWhole_148 : decode cX8_isWhole 148 = .ok (.aload_n 0, 1) := by decide +kernel
theorem dX8_isWhole_149 : decode cX8_isWhole 149 = .ok (.getfield 52, 3) := by decide +kernel
theorem dX8_isWhole_152 : decode cX8_isWhole 152 = .ok (.ldc 55, 2) := by decide +kernel
theorem dX8_isWhole_154 : decode cX8_isWhole 154 = .ok (.isub, 1) := by decide +kernel
theorem dX8_isWhole_155 : decode cX8_isWhole 155 = .ok (.goto 7, 3) := by decide +kernel
theorem dX8_isWhole_158 : decode cX8_isWhole 158 = .ok (.aload_n 0, 1) := by decide +kernel
theorem dX8_isWhole_159 : decode cX8_isWhole 159 = .ok (.getfield 52, 3) := by decide +kernel
theorem dX8_isWhole_162 : decode cX8_isWhole 162 = .ok (.putfield 56, 3) := by decide +kernel
theorem dX8_isWhole_165 : decode cX8_isWhole 165 = .ok (.aload_n 0, 1) := by decide +kernel
theorem dX8_isWhole_166 : decode cX8_isWhole 166 = .ok (.dup, 1) := by decide +kernel
theorem dX8_isWhole_167 : decode cX8_isWhole 167 = .ok (.getfield 52, 3) := by decide +kernel
theorem dX8_isWhole_170 : decode cX8_isWhole 170 = .ok (.ldc 59, 2) := by decide +kernel
theorem dX8_isWhole_172 : decode cX8_isWhole 172 = .ok (.iand, 1) := by decide +kernel
theorem dX8_isWhole_173 : decode cX8_isWhole 173 = .ok (.putfield 52, 3) := by decide +kernel
theorem dX8_isWhole_176 : decode cX8_isWhole 176 = .ok (.iconst 1, 1) := by decide +kernel
theorem dX8_isWhole_177 : decode cX8_isWhole 177 = .ok (.ireturn, 1) := by decide +kernel
theorem dX8_say_0 : decode cX8_say 0 = .ok (.iload_n 1, 1) := by decide +kernel
theorem dX8_say_1 : decode cX8_say 1 = .ok (.iconst 0, 1) := by decide +kernel
theorem dX8_say_2 : decode cX8_say 2 = .ok (.sipush 255, 3) := by decide +kernel
theorem dX8_say_5 : decode cX8_say 5 = .ok (.invokestatic 60, 3) := by decide +kernel
theorem dX8_say_8 : decode cX8_say 8 = .ok (.ifCond .ne 6, 3) := by decide +kernel
theorem dX8_say_11 : decode cX8_say 11 = .ok (.bipush (-2), 2) := by decide +kernel
theorem dX8_say_13 : decode cX8_say 13 = .ok (.ireturn, 1) := by decide +kernel
theorem dX8_say_14 : decode cX8_say 14 = .ok (.aload_n 0, 1) := by decide +kernel
theorem dX8_say_15 : decode cX8_say 15 = .ok (.getfield 7, 3) := by decide +kernel
theorem dX8_say_18 : decode cX8_say 18 = .ok (.sipush 3285, 3) := by decide +kernel
theorem dX8_say_21 : decode cX8_say 21 = .ok (.iaload, 1) := by decide +kernel
theorem dX8_say_22 : decode cX8_say 22 = .ok (.bipush 96, 2) := by decide +kernel
theorem dX8_say_24 : decode cX8_say 24 = .ok (.if_icmp .ne 6, 3) := by decide +kernel
theorem dX8_say_27 : decode cX8_say 27 = .ok (.bipush (-4), 2) := by decide +kernel
theorem dX8_say_29 : decode cX8_say 29 = .ok (.ireturn, 1) := by decide +kernel
theorem dX8_say_30 : decode cX8_say 30 = .ok (.aload_n 0, 1) := by decide +kernel
theorem dX8_say_31 : decode cX8_say 31 = .ok (.getfield 7, 3) := by decide +kernel
theorem dX8_say_34 : decode cX8_say 34 = .ok (.iconst 0, 1) := by decide +kernel
theorem dX8_say_35 : decode cX8_say 35 = .ok (.aload_n 0, 1) := by decide +kernel
theorem dX8_say_36 : decode cX8_say 36 = .ok (.getfield 7, 3) := by decide +kernel
theorem dX8_say_39 : decode cX8_say 39 = .ok (.sipush 3285, 3) := by decide +kernel
theorem dX8_say_42 : decode cX8_say 42 = .ok (.iaload, 1) := by decide +kernel
theorem dX8_say_43 : decode cX8_say 43 = .ok (.iadd, 1) := by decide +kernel
theorem dX8_say_44 : decode cX8_say 44 = .ok (.iload_n 1, 1) := by decide +kernel
theorem dX8_say_45 : decode cX8_say 45 = .ok (.iastore, 1) := by decide +kernel
theorem dX8_say_46 : decode cX8_say 46 = .ok (.aload_n 0, 1) := by decide +kernel
theorem dX8_say_47 : decode cX8_say 47 = .ok (.getfield 7, 3) := by decide +kernel
theorem dX8_say_50 : decode cX8_say 50 = .ok (.sipush 3285, 3) := by decide +kernel
theorem dX8_say_53 : decode cX8_say 53 = .ok (.dup2, 1) := by decide +kernel
theorem dX8_say_54 : decode cX8_say 54 = .ok (.iaload, 1) := by decide +kernel
theorem dX8_say_55 : decode cX8_say 55 = .ok (.iconst 1, 1) := by decide +kernel
theorem dX8_say_56 : decode cX8_say 56 = .ok (.iadd, 1) := by decide +kernel
theorem dX8_say_57 : decode cX8_say 57 = .ok (.iastore, 1) := by decide +kernel
theorem dX8_say_58 : decode cX8_say 58 = .ok (.aload_n 0, 1) := by decide +kernel
theorem dX8_say_59 : decode cX8_say 59 = .ok (.getfield 7, 3) := by decide +kernel
theorem dX8_say_62 : decode cX8_say 62 = .ok (.sipush 3285, 3) := by decide +kernel
theorem dX8_say_65 : decode cX8_say 65 = .ok (.iaload, 1) := by decide +kernel
theorem dX8_say_66 : decode cX8_say 66 = .ok (.ireturn, 1) := by decide +kernel
theorem dX8_wipe_0 : decode cX8_wipe 0 = .ok (.aload_n 0, 1) := by decide +kernel
theorem dX8_wipe_1 : decode cX8_wipe 1 = .ok (.getfield 7, 3) := by decide +kernel
theorem dX8_wipe_4 : decode cX8_wipe 4 = .ok (.sipush 3285, 3) := by decide +kernel
theorem dX8_wipe_7 : decode cX8_wipe 7 = .ok (.iaload, 1) := by decide +kernel
theorem dX8_wipe_8 : decode cX8_wipe 8 = .ok (.istore_n 1, 1) := by decide +kernel
theorem dX8_wipe_9 : decode cX8_wipe 9 = .ok (.aload_n 0, 1) := by decide +kernel
theorem dX8_wipe_10 : decode cX8_wipe 10 = .ok (.getfield 7, 3) := by decide +kernel
theorem dX8_wipe_13 : decode cX8_wipe 13 = .ok (.sipush 3285, 3) := by decide +kernel
theorem dX8_wipe_16 : decode cX8_wipe 16 = .ok (.iconst 0, 1) := by decide +kernel
theorem dX8_wipe_17 : decode cX8_wipe 17 = .ok (.iastore, 1) := by decide +kernel
theorem dX8_wipe_18 : decode cX8_wipe 18 = .ok (.iload_n 1, 1) := by decide +kernel
theorem dX8_wipe_19 : decode cX8_wipe 19 = .ok (.ireturn, 1) := by decide +kernel
theorem dX8_item_0 : decode cX8_item 0 = .ok (.iload_n 1, 1) := by decide +kernel
theorem dX8_item_1 : decode cX8_item 1 = .ok (.iconst 0, 1) := by decide +kernel
theorem dX8_item_2 : decode cX8_item 2 = .ok (.iconst 2, 1) := by decide +kernel
theorem dX8_item_3 : decode cX8_item 3 = .ok (.invokestatic 60, 3) := by decide +kernel
theorem dX8_item_6 : decode cX8_item 6 = .ok (.ifCond .eq 26, 3) := by decide +kernel
theorem dX8_item_9 : decode cX8_item 9 = .ok (.iload_n 2, 1) := by decide +kernel
theorem dX8_item_10 : decode cX8_item 10 = .ok (.iconst 0, 1) := by decide +kernel
theorem dX8_item_11 : decode cX8_item 11 = .ok (.bipush 15, 2) := by decide +kernel
theorem dX8_item_13 : decode cX8_item 13 = .ok (.invokestatic 60, 3) := by decide +kernel
theorem dX8_item_16 : decode cX8_item 16 = .ok (.ifCond .eq 16, 3) := by decide +kernel
theorem dX8_item_19 : decode cX8_item 19 = .ok (.iload_n 3, 1) := by decide +kernel
theorem dX8_item_20 : decode cX8_item 20 = .ok (.sipush (-32768), 3) := by decide +kernel
theorem dX8_item_23 : decode cX8_item 23 = .ok (.sipush 32767, 3) := by decide +kernel
theorem dX8_item_26 : decode cX8_item 26 = .ok (.invokestatic 60, 3) := by decide +kernel
theorem dX8_item_29 : decode cX8_item 29 = .ok (.ifCond .ne 6, 3) := by decide +kernel
theorem dX8_item_32 : decode cX8_item 32 = .ok (.bipush (-2), 2) := by decide +kernel
theorem dX8_item_34 : decode cX8_item 34 = .ok (.ireturn, 1) := by decide +kernel
theorem dX8_item_35 : decode cX8_item 35 = .ok (.iload_n 3, 1) := by decide +kernel
theorem dX8_item_36 : decode cX8_item 36 = .ok (.ifCond .ne 7, 3) := by decide +kernel
theorem dX8_item_39 : decode cX8_item 39 = .ok (.iconst 0, 1) := by decide +kernel
theorem dX8_item_40 : decode cX8_item 40 = .ok (.goto 19, 3) := by decide +kernel
theorem dX8_item_43 : decode cX8_item 43 = .ok (.iload_n 3, 1) := by decide +kernel
theorem dX8_item_44 : decode cX8_item 44 = .ok (.bipush (-128), 2) := by decide +kernel
theorem dX8_item_46 : decode cX8_item 46 = .ok (.bipush 127, 2) := by decide +kernel
theorem dX8_item_48 : decode cX8_item 48 = .ok (.invokestatic 60, 3) := by decide +kernel
theorem dX8_item_51 : decode cX8_item 51 = .ok (.ifCond .eq 7, 3) := by decide +kernel
theorem dX8_item_54 : decode cX8_item 54 = .ok (.iconst 1, 1) := by decide +kernel
theorem dX8_item_55 : decode cX8_item 55 = .ok (.goto 4, 3) := by decide +kernel
theorem dX8_item_58 : decode cX8_item 58 = .ok (.iconst 2, 1) := by decide +kernel
theorem dX8_item_59 : decode cX8_item 59 = .ok (.istore 4, 2) := by decide +kernel
theorem dX8_item_61 : decode cX8_item 61 = .ok (.aload_n 0, 1) := by decide +kernel
theorem dX8_item_62 : decode cX8_item 62 = .ok (.getfield 7, 3) := by decide +kernel
theorem dX8_item_65 : decode cX8_item 65 = .ok (.sipush 3285, 3) := by decide +kernel
theorem dX8_item_68 : decode cX8_item 68 = .ok (.iaload, 1) := by decide +kernel
theorem dX8_item_69 : decode cX8_item 69 = .ok (.iconst 1, 1) := by decide +kernel
theorem dX8_item_70 : decode cX8_item 70 = .ok (.iadd, 1) := by decide +kernel
theorem dX8_item_71 : decode cX8_item 71 = .ok (.iload 4, 2) := by decide +kernel
theorem dX8_item_73 : decode cX8_item 73 = .ok (.iadd, 1) := by decide +kernel
theorem dX8_item_74 : decode cX8_item 74 = .ok (.bipush 96, 2) := by decide +kernel
theorem dX8_item_76 : decode cX8_item 76 = .ok (.if_icmp .le 6, 3) := by decide +kernel
theorem dX8_item_79 : decode cX8_item 79 = .ok (.bipush (-4), 2) := by decide +kernel
theorem dX8_item_81 : decode cX8_item 81 = .ok (.ireturn, 1) := by decide +kernel
theorem dX8_item_82 : decode cX8_item 82 = .ok (.iload_n 3, 1) := by decide +kernel
theorem dX8_item_83 : decode cX8_item 83 = .ok (.ifCond .ge 22, 3) := by decide +kernel
theorem dX8_item_86 : decode cX8_item 86 = .ok (.iload_n 3, 1) := by decide +kernel
theorem dX8_item_87 : decode cX8_item 87 = .ok (.iload 4, 2) := by decide +kernel
theorem dX8_item_89 : decode cX8_item 89 = .ok (.iconst 1, 1) := by decide +kernel
theorem dX8_item_90 : decode cX8_item 90 = .ok (.if_icmp .ne 9, 3) := by decide +kernel
theorem dX8_item_93 : decode cX8_item 93 = .ok (.sipush 256, 3) := by decide +kernel
theorem dX8_item_96 : decode cX8_item 96 = .ok (.goto 5, 3) := by decide +kernel
theorem dX8_item_99 : decode cX8_item 99 = .ok (.ldc 55, 2) := by decide +kernel
theorem dX8_item_101 : decode cX8_item 101 = .ok (.iadd, 1) := by decide +kernel
theorem dX8_item_102 : decode cX8_item 102 = .ok (.goto 4, 3) := by decide +kernel
theorem dX8_item_105 : decode cX8_item 105 = .ok (.iload_n 3, 1) := by decide +kernel
theorem dX8_item_106 : decode cX8_item 106 = .ok (.istore 5, 2) := by decide +kernel
theorem dX8_item_108 : decode cX8_item 108 = .ok (.iconst 0, 1) := by decide +kernel
theorem dX8_item_109 : decode cX8_item 109 = .ok (.aload_n 0, 1) := by decide +kernel
theorem dX8_item_110 : decode cX8_item 110 = .ok (.getfield 7, 3) := by decide +kernel
theorem dX8_item_113 : decode cX8_item 113 = .ok (.sipush 3285, 3) := by decide +kernel
theorem dX8_item_116 : decode cX8_item 116 = .ok (.iaload, 1) := by decide +kernel
theorem dX8_item_117 : decode cX8_item 117 = .ok (.iadd, 1) := by decide +kernel
theorem dX8_item_118 : decode cX8_item 118 = .ok (.istore 6, 2) := by decide +kernel
theorem dX8_item_120 : decode cX8_item 120 = .ok (.aload_n 0, 1) := by decide +kernel
theorem dX8_item_121 : decode cX8_item 121 = .ok (.getfield 7, 3) := by decide +kernel
theorem dX8_item_124 : decode cX8_item 124 = .ok (.iload 6, 2) := by decide +kernel
theorem dX8_item_126 : decode cX8_item 126 = .ok (.bipush 16, 2) := by decide +kernel
theorem dX8_item_128 : decode cX8_item 128 = .ok (.iload_n 2, 1) := by decide +kernel
theorem dX8_item_129 : decode cX8_item 129 = .ok (.imul, 1) := by decide +kernel
theorem dX8_item_130 : decode cX8_item 130 = .ok (.iconst 4, 1) := by decide +kernel
theorem dX8_item_131 : decode cX8_item 131 = .ok (.iload_n 1, 1) := by decide +kernel
theorem dX8_item_132 : decode cX8_item 132 = .ok (.imul, 1) := by decide +kernel
theorem dX8_item_133 : decode cX8_item 133 = .ok (.iadd, 1) := by decide +kernel
theorem dX8_item_134 : decode cX8_item 134 = .ok (.iload 4, 2) := by decide +kernel
theorem dX8_item_136 : decode cX8_item 136 = .ok (.iadd, 1) := by decide +kernel
theorem dX8_item_137 : decode cX8_item 137 = .ok (.iastore, 1) := by decide +kernel
theorem dX8_item_138 : decode cX8_item 138 = .ok (.iload 4, 2) := by decide +kernel
theorem dX8_item_140 : decode cX8_item 140 = .ok (.ifCond .le 18, 3) := by decide +kernel
theorem dX8_item_143 : decode cX8_item 143 = .ok (.aload_n 0, 1) := by decide +kernel
theorem dX8_item_144 : decode cX8_item 144 = .ok (.getfield 7, 3) := by decide +kernel
theorem dX8_item_147 : decode cX8_item 147 = .ok (.iload 6, 2) := by decide +kernel
theorem dX8_item_149 : decode cX8_item 149 = .ok (.iconst 1, 1) := by decide +kernel
theorem dX8_item_150 : decode cX8_item 150 = .ok (.iadd, 1) := by decide +kernel
theorem dX8_item_151 : decode cX8_item 151 = .ok (.iload 5, 2) := by decide +kernel
theorem dX8_item_153 : decode cX8_item 153 = .ok (.sipush 256, 3) := by decide +kernel
theorem dX8_item_156 : decode cX8_item 156 = .ok (.irem, 1) := by decide +kernel
theorem dX8_item_157 : decode cX8_item 157 = .ok (.iastore, 1) := by decide +kernel
theorem dX8_item_158 : decode cX8_item 158 = .ok (.iload 4, 2) := by decide +kernel
theorem dX8_item_160 : decode cX8_item 160 = .ok (.iconst 1, 1) := by decide +kernel
theorem dX8_item_161 : decode cX8_item 161 = .ok (.if_icmp .le 18, 3) := by decide +kernel
theorem dX8_item_164 : decode cX8_item 164 = .ok (.aload_n 0, 1) := by decide +kernel
theorem dX8_item_165 : decode cX8_item 165 = .ok (.getfield 7, 3) := by decide +kernel
theorem dX8_item_168 : decode cX8_item 168 = .ok (.iload 6, 2) := by decide +kernel
theorem dX8_item_170 : decode cX8_item 170 = .ok (.iconst 2, 1) := by decide +kernel
theorem dX8_item_171 : decode cX8_item 171 = .ok (.iadd, 1) := by decide +kernel
theorem dX8_item_172 : decode cX8_item 172 = .ok (.iload 5, 2) := by decide +kernel
theorem dX8_item_174 : decode cX8_item 174 = .ok (.sipush 256, 3) := by decide +kernel
theorem dX8_item_177 : decode cX8_item 177 = .ok (.idiv, 1) := by decide +kernel
theorem dX8_item_178 : decode cX8_item 178 = .ok (.iastore, 1) := by decide +kernel
theorem dX8_item_179 : decode cX8_item 179 = .ok (.aload_n 0, 1) := by decide +kernel
theorem dX8_item_180 : decode cX8_item 180 = .ok (.getfield 7, 3) := by decide +kernel
theorem dX8_item_183 : decode cX8_item 183 = .ok (.sipush 3285, 3) := by decide +kernel
theorem dX8_item_186 : decode cX8_item 186 = .ok (.dup2, 1) := by decide +kernel
theorem dX8_item_187 : decode cX8_item 187 = .ok (.iaload, 1) := by decide +kernel
theorem dX8_item_188 : decode cX8_item 188 = .ok (.iconst 1, 1) := by decide +kernel
theorem dX8_item_189 : decode cX8_item 189 = .ok (.iload 4, 2) := by decide +kernel
theorem dX8_item_191 : decode cX8_item 191 = .ok (.iadd, 1) := by decide +kernel
theorem dX8_item_192 : decode cX8_item 192 = .ok (.iadd, 1) := by decide +kernel
theorem dX8_item_193 : decode cX8_item 193 = .ok (.iastore, 1) := by decide +kernel
theorem dX8_item_194 : decode cX8_item 194 = .ok (.aload_n 0, 1) := by decide +kernel
theorem dX8_item_195 : decode cX8_item 195 = .ok (.getfield 7, 3) := by decide +kernel
theorem dX8_item_198 : decode cX8_item 198 = .ok (.sipush 3285, 3) := by decide +kernel
theorem dX8_item_201 : decode cX8_item 201 = .ok (.iaload, 1) := by decide +kernel
theorem dX8_item_202 : decode cX8_item 202 = .ok (.ireturn, 1) := by decide +kernel
theorem dX8_setNumber_0 : decode cX8_setNumber 0 = .ok (.aload_n 0, 1) := by decide +kernel
theorem dX8_setNumber_1 : decode cX8_setNumber 1 = .ok (.getfield 49, 3) := by decide +kernel
theorem dX8_setNumber_4 : decode cX8_setNumber 4 = .ok (.tableswitch 180 0 11 #[64, 76, 76, 180, 180, 180, 180, 91, 116, 145, 170, 175], 64) := by decide +kernel
theorem dX8_setNumber_68 : decode cX8_setNumber 68 = .ok (.aload_n 0, 1) := by decide +kernel
theorem dX8_setNumber_69 : decode cX8_setNumber 69 = .ok (.getfield 20, 3) := by decide +kernel
theorem dX8_setNumber_72 : decode cX8_setNumber 72 = .ok (.iconst 0, 1) := by decide +kernel
theorem dX8_setNumber_73 : decode cX8_setNumber 73 = .ok (.aload_n 0, 1) := by decide +kernel
theorem dX8_setNumber_74 : decode cX8_setNumber 74 = .ok (.getfield 52, 3) := by decide +kernel
theorem dX8_setNumber_77 : decode cX8_setNumber 77 = .ok (.iastore, 1) := by decide +kernel
theorem dX8_setNumber_78 : decode cX8_setNumber 78 = .ok (.iconst 0, 1) := by decide +kernel
theorem dX8_setNumber_79 : decode cX8_setNumber 79 = .ok (.ireturn, 1) := by decide +kernel
theorem dX8_setNumber_80 : decode cX8_setNumber 80 = .ok (.aload_n 0, 1) := by decide +kernel
theorem dX8_setNumber_81 : decode cX8_setNumber 81 = .ok (.getfield 20, 3) := by decide +kernel
theorem dX8_setNumber_84 : decode cX8_setNumber 84 = .ok (.aload_n 0, 1) := by decide +kernel
theorem dX8_setNumber_85 : decode cX8_setNumber 85 = .ok (.getfield 49, 3) := by decide +kernel
theorem dX8_setNumber_88 : decode cX8_setNumber 88 = .ok (.aload_n 0, 1) := by decide +kernel
theorem dX8_setNumber_89 : decode cX8_setNumber 89 = .ok (.getfield 56, 3) := by decide +kernel
theorem dX8_setNumber_92 : decode cX8_setNumber 92 = .ok (.iastore, 1) := by decide +kernel
theorem dX8_setNumber_93 : decode cX8_setNumber 93 = .ok (.iconst 0, 1) := by decide +kernel
theorem dX8_setNumber_94 : decode cX8_setNumber 94 = .ok (.ireturn, 1) := by decide +kernel
theorem dX8_setNumber_95 : decode cX8_setNumber 95 = .ok (.aload_n 0, 1) := by decide +kernel
theorem dX8_setNumber_96 : decode cX8_setNumber 96 = .ok (.getfield 20, 3) := by decide +kernel
theorem dX8_setNumber_99 : decode cX8_setNumber 99 = .ok (.iconst 3, 1) := by decide +kernel
theorem dX8_setNumber_100 : decode cX8_setNumber 100 = .ok (.aload_n 0, 1) := by decide +kernel
theorem dX8_setNumber_101 : decode cX8_setNumber 101 = .ok (.getfield 52, 3) := by decide +kernel
theorem dX8_setNumber_104 : decode cX8_setNumber 104 = .ok (.iastore, 1) := by decide +kernel
theorem dX8_setNumber_105 : decode cX8_setNumber 105 = .ok (.aload_n 0, 1) := by decide +kernel
theorem dX8_setNumber_106 : decode cX8_setNumber 106 = .ok (.getfield 52, 3) := by decide +kernel
theorem dX8_setNumber_109 : decode cX8_setNumber 109 = .ok (.bipush 31, 2) := by decide +kernel
theorem dX8_setNumber_111 : decode cX8_setNumber 111 = .ok (.if_icmp .le 7, 3) := by decide +kernel
theorem dX8_setNumber_114 : decode cX8_setNumber 114 = .ok (.iconst 3, 1) := by decide +kernel
theorem dX8_setNumber_115 : decode cX8_setNumber 115 = .ok (.goto 4, 3) := by decide +kernel
theorem dX8_setNumber_118 : decode cX8_setNumber 118 = .ok (.iconst 0, 1) := by decide +kernel
theorem dX8_setNumber_119 : decode cX8_setNumber 119 = .ok (.ireturn, 1) := by decide +kernel
theorem dX8_setNumber_120 : decode cX8_setNumber 120 = .ok (.aload_n 0, 1) := by decide +kernel
theorem dX8_setNumber_121 : decode cX8_setNumber 121 = .ok (.getfield 20, 3) := by decide +kernel
theorem dX8_setNumber_124 : decode cX8_setNumber 124 = .ok (.iconst 4, 1) := by decide +kernel
theorem dX8_setNumber_125 : decode cX8_setNumber 125 = .ok (.aload_n 0, 1) := by decide +kernel
theorem dX8_setNumber_126 : decode cX8_setNumber 126 = .ok (.getfield 52, 3) := by decide +kernel
theorem dX8_setNumber_129 : decode cX8_setNumber 129 = .ok (.iastore, 1) := by decide +kernel
theorem dX8_setNumber_130 : decode cX8_setNumber 130 = .ok (.aload_n 0, 1) := by decide +kernel
theorem dX8_setNumber_131 : decode cX8_setNumber 131 = .ok (.getfield 52, 3) := by decide +kernel
theorem dX8_setNumber_134 : decode cX8_setNumber 134 = .ok (.iconst 1, 1) := by decide +kernel
theorem dX8_setNumber_135 : decode cX8_setNumber 135 = .ok (.bipush 15, 2) := by decide +kernel
theorem dX8_setNumber_137 : decode cX8_setNumber 137 = .ok (.invokestatic 60, 3) := by decide +kernel
theorem dX8_setNumber_140 : decode cX8_setNumber 140 = .ok (.ifCond .eq 7, 3) := by decide +kernel
theorem dX8_setNumber_143 : decode cX8_setNumber 143 = .ok (.iconst 0, 1) := by decide +kernel
theorem dX8_setNumber_144 : decode cX8_setNumber 144 = .ok (.goto 4, 3) := by decide +kernel
theorem dX8_setNumber_147 : decode cX8_setNumber 147 = .ok (.iconst 4, 1) := by decide +kernel
theorem dX8_setNumber_148 : decode cX8_setNumber 148 = .ok (.ireturn, 1) := by decide +kernel
theorem dX8_setNumber_149 : decode cX8_setNumber 149 = .ok (.aload_n 0, 1) := by decide +kernel
theorem dX8_setNumber_150 : decode cX8_setNumber 150 = .ok (.getfield 20, 3) := by decide +kernel
theorem dX8_setNumber_153 : decode cX8_setNumber 153 = .ok (.iconst 5, 1) := by decide +kernel
theorem dX8_setNumber_154 : decode cX8_setNumber 154 = .ok (.aload_n 0, 1) := by decide +kernel
theorem dX8_setNumber_155 : decode cX8_setNumber 155 = .ok (.getfield 52, 3) := by decide +kernel
theorem dX8_setNumber_158 : decode cX8_setNumber 158 = .ok (.iastore, 1) := by decide +kernel
theorem dX8_setNumber_159 : decode cX8_setNumber 159 = .ok (.aload_n 0, 1) := by decide +kernel
theorem dX8_setNumber_160 : decode cX8_setNumber 160 = .ok (.getfield 52, 3) := by decide +kernel
theorem dX8_setNumber_163 : decode cX8_setNumber 163 = .ok (.bipush 40, 2) := by decide +kernel
theorem dX8_setNumber_165 : decode cX8_setNumber 165 = .ok (.if_icmp .le 7, 3) := by decide +kernel
theorem dX8_setNumber_168 : decode cX8_setNumber 168 = .ok (.iconst 5, 1) := by decide +kernel
theorem dX8_setNumber_169 : decode cX8_setNumber 169 = .ok (.goto 4, 3) := by decide +kernel
theorem dX8_setNumber_172 : decode cX8_setNumber 172 = .ok (.iconst 0, 1) := by decide +kernel
theorem dX8_setNumber_173 : decode cX8_setNumber 173 = .ok (.ireturn, 1) := by decide +kernel
theorem dX8_setNumber_174 : decode cX8_setNumber 174 = .ok (.aload_n 0, 1) := by decide +kernel
theorem dX8_setNumber_175 : decode cX8_setNumber 175 = .ok (.invokevirtual 64, 3) := by decide +kernel
theorem dX8_setNumber_178 : decode cX8_setNumber 178 = .ok (.ireturn, 1) := by decide +kernel
theorem dX8_setNumber_179 : decode cX8_setNumber 179 = .ok (.aload_n 0, 1) := by decide +kernel
theorem dX8_setNumber_180 : decode cX8_setNumber 180 = .ok (.invokevirtual 68, 3) := by decide +kernel
theorem dX8_setNumber_183 : decode cX8_setNumber 183 = .ok (.ireturn, 1) := by decide +kernel
theorem dX8_setNumber_184 : decode cX8_setNumber 184 = .ok (.iconst 0, 1) := by decide +kernel
theorem dX8_setNumber_185 : decode cX8_setNumber 185 = .ok (.ireturn, 1) := by decide +kernel
theorem dX8_push_0 : decode cX8_push 0 = .ok (.aload_n 0, 1) := by decide +kernel
theorem dX8_push_1 : decode cX8_push 1 = .ok (.getfield 71, 3) := by decide +kernel
theorem dX8_push_4 : decode cX8_push 4 = .ok (.iconst 4, 1) := by decide +kernel
theorem dX8_push_5 : decode cX8_push 5 = .ok (.if_icmp .ne 6, 3) := by decide +kernel
theorem dX8_push_8 : decode cX8_push 8 = .ok (.bipush 6, 2) := by decide +kernel
theorem dX8_push_10 : decode cX8_push 10 = .ok (.ireturn, 1) := by decide +kernel
theorem dX8_push_11 : decode cX8_push 11 = .ok (.iconst 0, 1) := by decide +kernel
theorem dX8_push_12 : decode cX8_push 12 = .ok (.istore_n 1, 1) := by decide +kernel
theorem dX8_push_13 : decode cX8_push 13 = .ok (.iload_n 1, 1) := by decide +kernel
theorem dX8_push_14 : decode cX8_push 14 = .ok (.bipush 6, 2) := by decide +kernel
theorem dX8_push_16 : decode cX8_push 16 = .ok (.if_icmp .ge 29, 3) := by decide +kernel
theorem dX8_push_19 : decode cX8_push 19 = .ok (.aload_n 0, 1) := by decide +kernel
theorem dX8_push_20 : decode cX8_push 20 = .ok (.getfield 23, 3) := by decide +kernel
theorem dX8_push_23 : decode cX8_push 23 = .ok (.bipush 6, 2) := by decide +kernel
theorem dX8_push_25 : decode cX8_push 25 = .ok (.aload_n 0, 1) := by decide +kernel
theorem dX8_push_26 : decode cX8_push 26 = .ok (.getfield 71, 3) := by decide +kernel
theorem dX8_push_29 : decode cX8_push 29 = .ok (.imul, 1) := by decide +kernel
theorem dX8_push_30 : decode cX8_push 30 = .ok (.iload_n 1, 1) := by decide +kernel
theorem dX8_push_31 : decode cX8_push 31 = .ok (.iadd, 1) := by decide +kernel
theorem dX8_push_32 : decode cX8_push 32 = .ok (.aload_n 0, 1) := by decide +kernel
theorem dX8_push_33 : decode cX8_push 33 = .ok (.getfield 20, 3) := by decide +kernel
theorem dX8_push_36 : decode cX8_push 36 = .ok (.iload_n 1, 1) := by decide +kernel
theorem dX8_push_37 : decode cX8_push 37 = .ok (.iaload, 1) := by decide +kernel
theorem dX8_push_38 : decode cX8_push 38 = .ok (.iastore, 1) := by decide +kernel
theorem dX8_push_39 : decode cX8_push 39 = .ok (.iinc 1 1, 3) := by decide +kernel
theorem dX8_push_42 : decode cX8_push 42 = .ok (.goto (-29), 3) := by decide +kernel
theorem dX8_push_45 : decode cX8_push 45 = .ok (.aload_n 0, 1) := by decide +kernel
theorem dX8_push_46 : decode cX8_push 46 = .ok (.dup, 1) := by decide +kernel
theorem dX8_push_47 : decode cX8_push 47 = .ok (.getfield 71, 3) := by decide +kernel
theorem dX8_push_50 : decode cX8_push 50 = .ok (.iconst 1, 1) := by decide +kernel
theorem dX8_push_51 : decode cX8_push 51 = .ok (.iadd, 1) := by decide +kernel
theorem dX8_push_52 : decode cX8_push 52 = .ok (.putfield 71, 3) := by decide +kernel
theorem dX8_push_55 : decode cX8_push 55 = .ok (.iconst 0, 1) := by decide +kernel
theorem dX8_push_56 : decode cX8_push 56 = .ok (.ireturn, 1) := by decide +kernel
theorem dX8_pop_0 : decode cX8_pop 0 = .ok (.aload_n 0, 1) := by decide +kernel
theorem dX8_pop_1 : decode cX8_pop 1 = .ok (.getfield 71, 3) := by decide +kernel
theorem dX8_pop_4 : decode cX8_pop 4 = .ok (.ifCond .ne 6, 3) := by decide +kernel
theorem dX8_pop_7 : decode cX8_pop 7 = .ok (.bipush 7, 2) := by decide +kernel
theorem dX8_pop_9 : decode cX8_pop 9 = .ok (.ireturn, 1) := by decide +kernel
theorem dX8_pop_10 : decode cX8_pop 10 = .ok (.aload_n 0, 1) := by decide +kernel
theorem dX8_pop_11 : decode cX8_pop 11 = .ok (.dup, 1) := by decide +kernel
theorem dX8_pop_12 : decode cX8_pop 12 = .ok (.getfield 71, 3) := by decide +kernel
theorem dX8_pop_15 : decode cX8_pop 15 = .ok (.iconst 1, 1) := by decide +kernel
theorem dX8_pop_16 : decode cX8_pop 16 = .ok (.isub, 1) := by decide +kernel
theorem dX8_pop_17 : decode cX8_pop 17 = .ok (.putfield 71, 3) := by decide +kernel
theorem dX8_pop_20 : decode cX8_pop 20 = .ok (.iconst 0, 1) := by decide +kernel
theorem dX8_pop_21 : decode cX8_pop 21 = .ok (.istore_n 1, 1) := by decide +kernel
theorem dX8_pop_22 : decode cX8_pop 22 = .ok (.iload_n 1, 1) := by decide +kernel
theorem dX8_pop_23 : decode cX8_pop 23 = .ok (.bipush 6, 2) := by decide +kernel
theorem dX8_pop_25 : decode cX8_pop 25 = .ok (.if_icmp .ge 29, 3) := by decide +kernel
theorem dX8_pop_28 : decode cX8_pop 28 = .ok (.aload_n 0, 1) := by decide +kernel
theorem dX8_pop_29 : decode cX8_pop 29 = .ok (.getfield 20, 3) := by decide +kernel
theorem dX8_pop_32 : decode cX8_pop 32 = .ok (.iload_n 1, 1) := by decide +kernel
theorem dX8_pop_33 : decode cX8_pop 33 = .ok (.aload_n 0, 1) := by decide +kernel
theorem dX8_pop_34 : decode cX8_pop 34 = .ok (.getfield 23, 3) := by decide +kernel
theorem dX8_pop_37 : decode cX8_pop 37 = .ok (.bipush 6, 2) := by decide +kernel
theorem dX8_pop_39 : decode cX8_pop 39 = .ok (.aload_n 0, 1) := by decide +kernel
theorem dX8_pop_40 : decode cX8_pop 40 = .ok (.getfield 71, 3) := by decide +kernel
theorem dX8_pop_43 : decode cX8_pop 43 = .ok (.imul, 1) := by decide +kernel
theorem dX8_pop_44 : decode cX8_pop 44 = .ok (.iload_n 1, 1) := by decide +kernel
theorem dX8_pop_45 : decode cX8_pop 45 = .ok (.iadd, 1) := by decide +kernel
theorem dX8_pop_46 : decode cX8_pop 46 = .ok (.iaload, 1) := by decide +kernel
theorem dX8_pop_47 : decode cX8_pop 47 = .ok (.iastore, 1) := by decide +kernel
theorem dX8_pop_48 : decode cX8_pop 48 = .ok (.iinc 1 1, 3) := by decide +kernel
theorem dX8_pop_51 : decode cX8_pop 51 = .ok (.goto (-29), 3) := by decide +kernel
theorem dX8_pop_54 : decode cX8_pop 54 = .ok (.iconst 0, 1) := by decide +kernel
theorem dX8_pop_55 : decode cX8_pop 55 = .ok (.ireturn, 1) := by decide +kernel
theorem dX8_tellUses_0 : decode cX8_tellUses 0 = .ok (.aload_n 0, 1) := by decide +kernel
theorem dX8_tellUses_1 : decode cX8_tellUses 1 = .ok (.getfield 49, 3) := by decide +kernel
theorem dX8_tellUses_4 : decode cX8_tellUses 4 = .ok (.iconst 1, 1) := by decide +kernel
theorem dX8_tellUses_5 : decode cX8_tellUses 5 = .ok (.if_icmp .ne 11, 3) := by decide +kernel
theorem dX8_tellUses_8 : decode cX8_tellUses 8 = .ok (.aload_n 0, 1) := by decide +kernel
theorem dX8_tellUses_9 : decode cX8_tellUses 9 = .ok (.aload_n 0, 1) := by decide +kernel
theorem dX8_tellUses_10 : decode cX8_tellUses 10 = .ok (.getfield 52, 3) := by decide +kernel
theorem dX8_tellUses_13 : decode cX8_tellUses 13 = .ok (.putfield 74, 3) := by decide +kernel
theorem dX8_tellUses_16 : decode cX8_tellUses 16 = .ok (.aload_n 0, 1) := by decide +kernel
theorem dX8_tellUses_17 : decode cX8_tellUses 17 = .ok (.getfield 49, 3) := by decide +kernel
theorem dX8_tellUses_20 : decode cX8_tellUses 20 = .ok (.ifCond .ne 10, 3) := by decide +kernel
theorem dX8_tellUses_23 : decode cX8_tellUses 23 = .ok (.aload_n 0, 1) := by decide +kernel
theorem dX8_tellUses_24 : decode cX8_tellUses 24 = .ok (.getfield 52, 3) := by decide +kernel
theorem dX8_tellUses_27 : decode cX8_tellUses 27 = .ok (.goto 7, 3) := by decide +kernel
theorem dX8_tellUses_30 : decode cX8_tellUses 30 = .ok (.aload_n 0, 1) := by decide +kernel
theorem dX8_tellUses_31 : decode cX8_tellUses 31 = .ok (.getfield 74, 3) := by decide +kernel
theorem dX8_tellUses_34 : decode cX8_tellUses 34 = .ok (.istore_n 1, 1) := by decide +kernel
theorem dX8_tellUses_35 : decode cX8_tellUses 35 = .ok (.aload_n 0, 1) := by decide +kernel
theorem dX8_tellUses_36 : decode cX8_tellUses 36 = .ok (.getfield 49, 3) := by decide +kernel
theorem dX8_tellUses_39 : decode cX8_tellUses 39 = .ok (.ifCond .eq 11, 3) := by decide +kernel
theorem dX8_tellUses_42 : decode cX8_tellUses 42 = .ok (.aload_n 0, 1) := by decide +kernel
theorem dX8_tellUses_43 : decode cX8_tellUses 43 = .ok (.getfield 49, 3) := by decide +kernel
theorem dX8_tellUses_46 : decode cX8_tellUses 46 = .ok (.iconst 2, 1) := by decide +kernel
theorem dX8_tellUses_47 : decode cX8_tellUses 47 = .ok (.if_icmp .ne 11, 3) := by decide +kernel
theorem dX8_tellUses_50 : decode cX8_tellUses 50 = .ok (.aload_n 0, 1) := by decide +kernel
theorem dX8_tellUses_51 : decode cX8_tellUses 51 = .ok (.getfield 52, 3) := by decide +kernel
theorem dX8_tellUses_54 : decode cX8_tellUses 54 = .ok (.iload_n 1, 1) := by decide +kernel
theorem dX8_tellUses_55 : decode cX8_tellUses 55 = .ok (.if_icmp .ge 5, 3) := by decide +kernel
theorem dX8_tellUses_58 : decode cX8_tellUses 58 = .ok (.iconst 0, 1) := by decide +kernel
theorem dX8_tellUses_59 : decode cX8_tellUses 59 = .ok (.ireturn, 1) := by decide +kernel
theorem dX8_tellUses_60 : decode cX8_tellUses 60 = .ok (.aload_n 0, 1) := by decide +kernel
theorem dX8_tellUses_61 : decode cX8_tellUses 61 = .ok (.getfield 52, 3) := by decide +kernel
theorem dX8_tellUses_64 : decode cX8_tellUses 64 = .ok (.iload_n 1, 1) := by decide +kernel
theorem dX8_tellUses_65 : decode cX8_tellUses 65 = .ok (.isub, 1) := by decide +kernel
theorem dX8_tellUses_66 : decode cX8_tellUses 66 = .ok (.bipush 32, 2) := by decide +kernel
theorem dX8_tellUses_68 : decode cX8_tellUses 68 = .ok (.aload_n 0, 1) := by decide +kernel
theorem dX8_tellUses_69 : decode cX8_tellUses 69 = .ok (.getfield 77, 3) := by decide +kernel
theorem dX8_tellUses_72 : decode cX8_tellUses 72 = .ok (.isub, 1) := by decide +kernel
theorem dX8_tellUses_73 : decode cX8_tellUses 73 = .ok (.if_icmp .lt 6, 3) := by decide +kernel
theorem dX8_tellUses_76 : decode cX8_tellUses 76 = .ok (.bipush 8, 2) := by decide +kernel
theorem dX8_tellUses_78 : decode cX8_tellUses 78 = .ok (.ireturn, 1) := by decide +kernel
theorem dX8_tellUses_79 : decode cX8_tellUses 79 = .ok (.iconst 0, 1) := by decide +kernel
theorem dX8_tellUses_80 : decode cX8_tellUses 80 = .ok (.istore_n 2, 1) := by decide +kernel
theorem dX8_tellUses_81 : decode cX8_tellUses 81 = .ok (.iload_n 2, 1) := by decide +kernel
theorem dX8_tellUses_82 : decode cX8_tellUses 82 = .ok (.aload_n 0, 1) := by decide +kernel
theorem dX8_tellUses_83 : decode cX8_tellUses 83 = .ok (.getfield 52, 3) := by decide +kernel
theorem dX8_tellUses_86 : decode cX8_tellUses 86 = .ok (.iload_n 1, 1) := by decide +kernel
theorem dX8_tellUses_87 : decode cX8_tellUses 87 = .ok (.isub, 1) := by decide +kernel
theorem dX8_tellUses_88 : decode cX8_tellUses 88 = .ok (.if_icmp .gt 23, 3) := by decide +kernel
theorem dX8_tellUses_91 : decode cX8_tellUses 91 = .ok (.aload_n 0, 1) := by decide +kernel
theorem dX8_tellUses_92 : decode cX8_tellUses 92 = .ok (.getfield 26, 3) := by decide +kernel
theorem dX8_tellUses_95 : decode cX8_tellUses 95 = .ok (.aload_n 0, 1) := by decide +kernel
theorem dX8_tellUses_96 : decode cX8_tellUses 96 = .ok (.getfield 77, 3) := by decide +kernel
theorem dX8_tellUses_99 : decode cX8_tellUses 99 = .ok (.iload_n 2, 1) := by decide +kernel
theorem dX8_tellUses_100 : decode cX8_tellUses 100 = .ok (.iadd, 1) := by decide +kernel
theorem dX8_tellUses_101 : decode cX8_tellUses 101 = .ok (.iload_n 1, 1) := by decide +kernel
theorem dX8_tellUses_102 : decode cX8_tellUses 102 = .ok (.iload_n 2, 1) := by decide +kernel
theorem dX8_tellUses_103 : decode cX8_tellUses 103 = .ok (.iadd, 1) := by decide +kernel
theorem dX8_tellUses_104 : decode cX8_tellUses 104 = .ok (.iastore, 1) := by decide +kernel
theorem dX8_tellUses_105 : decode cX8_tellUses 105 = .ok (.iinc 2 1, 3) := by decide +kernel
theorem dX8_tellUses_108 : decode cX8_tellUses 108 = .ok (.goto (-27), 3) := by decide +kernel
theorem dX8_tellUses_111 : decode cX8_tellUses 111 = .ok (.aload_n 0, 1) := by decide +kernel
theorem dX8_tellUses_112 : decode cX8_tellUses 112 = .ok (.dup, 1) := by decide +kernel
theorem dX8_tellUses_113 : decode cX8_tellUses 113 = .ok (.getfield 77, 3) := by decide +kernel
theorem dX8_tellUses_116 : decode cX8_tellUses 116 = .ok (.aload_n 0, 1) := by decide +kernel
theorem dX8_tellUses_117 : decode cX8_tellUses 117 = .ok (.getfield 52, 3) := by decide +kernel
theorem dX8_tellUses_120 : decode cX8_tellUses 120 = .ok (.iload_n 1, 1) := by decide +kernel
theorem dX8_tellUses_121 : decode cX8_tellUses 121 = .ok (.isub, 1) := by decide +kernel
theorem dX8_tellUses_122 : decode cX8_tellUses 122 = .ok (.iconst 1, 1) := by decide +kernel
theorem dX8_tellUses_123 : decode cX8_tellUses 123 = .ok (.iadd, 1) := by decide +kernel
theorem dX8_tellUses_124 : decode cX8_tellUses 124 = .ok (.iadd, 1) := by decide +kernel
theorem dX8_tellUses_125 : decode cX8_tellUses 125 = .ok (.putfield 77, 3) := by decide +kernel
theorem dX8_tellUses_128 : decode cX8_tellUses 128 = .ok (.iconst 0, 1) := by decide +kernel
theorem dX8_tellUses_129 : decode cX8_tellUses 129 = .ok (.ireturn, 1) := by decide +kernel
theorem dX8_beginGroup_0 : decode cX8_beginGroup 0 = .ok (.aload_n 0, 1) := by decide +kernel
theorem dX8_beginGroup_1 : decode cX8_beginGroup 1 = .ok (.getfield 80, 3) := by decide +kernel
theorem dX8_beginGroup_4 : decode cX8_beginGroup 4 = .ok (.bipush 12, 2) := by decide +kernel
theorem dX8_beginGroup_6 : decode cX8_beginGroup 6 = .ok (.if_icmp .ne 6, 3) := by decide +kernel
theorem dX8_beginGroup_9 : decode cX8_beginGroup 9 = .ok (.bipush 9, 2) := by decide +kernel
theorem dX8_beginGroup_11 : decode cX8_beginGroup 11 = .ok (.ireturn, 1) := by decide +kernel
theorem dX8_beginGroup_12 : decode cX8_beginGroup 12 = .ok (.aload_n 0, 1) := by decide +kernel
theorem dX8_beginGroup_13 : decode cX8_beginGroup 13 = .ok (.getfield 83, 3) := by decide +kernel
theorem dX8_beginGroup_16 : decode cX8_beginGroup 16 = .ok (.ifCond .eq 96, 3) := by decide +kernel
theorem dX8_beginGroup_19 : decode cX8_beginGroup 19 = .ok (.aload_n 0, 1) := by decide +kernel
theorem dX8_beginGroup_20 : decode cX8_beginGroup 20 = .ok (.getfield 7, 3) := by decide +kernel
theorem dX8_beginGroup_23 : decode cX8_beginGroup 23 = .ok (.sipush 768, 3) := by decide +kernel
theorem dX8_beginGroup_26 : decode cX8_beginGroup 26 = .ok (.iconst 3, 1) := by decide +kernel
theorem dX8_beginGroup_27 : decode cX8_beginGroup 27 = .ok (.aload_n 0, 1) := by decide +kernel
theorem dX8_beginGroup_28 : decode cX8_beginGroup 28 = .ok (.getfield 80, 3) := by decide +kernel
theorem dX8_beginGroup_31 : decode cX8_beginGroup 31 = .ok (.imul, 1) := by decide +kernel
theorem dX8_beginGroup_32 : decode cX8_beginGroup 32 = .ok (.iadd, 1) := by decide +kernel
theorem dX8_beginGroup_33 : decode cX8_beginGroup 33 = .ok (.aload_n 0, 1) := by decide +kernel
theorem dX8_beginGroup_34 : decode cX8_beginGroup 34 = .ok (.getfield 52, 3) := by decide +kernel
theorem dX8_beginGroup_37 : decode cX8_beginGroup 37 = .ok (.iastore, 1) := by decide +kernel
theorem dX8_beginGroup_38 : decode cX8_beginGroup 38 = .ok (.aload_n 0, 1) := by decide +kernel
theorem dX8_beginGroup_39 : decode cX8_beginGroup 39 = .ok (.getfield 7, 3) := by decide +kernel
theorem dX8_beginGroup_42 : decode cX8_beginGroup 42 = .ok (.sipush 768, 3) := by decide +kernel
theorem dX8_beginGroup_45 : decode cX8_beginGroup 45 = .ok (.iconst 3, 1) := by decide +kernel
theorem dX8_beginGroup_46 : decode cX8_beginGroup 46 = .ok (.aload_n 0, 1) := by decide +kernel
theorem dX8_beginGroup_47 : decode cX8_beginGroup 47 = .ok (.getfield 80, 3) := by decide +kernel
theorem dX8_beginGroup_50 : decode cX8_beginGroup 50 = .ok (.imul, 1) := by decide +kernel
theorem dX8_beginGroup_51 : decode cX8_beginGroup 51 = .ok (.iadd, 1) := by decide +kernel
theorem dX8_beginGroup_52 : decode cX8_beginGroup 52 = .ok (.iconst 1, 1) := by decide +kernel
theorem dX8_beginGroup_53 : decode cX8_beginGroup 53 = .ok (.iadd, 1) := by decide +kernel
theorem dX8_beginGroup_54 : decode cX8_beginGroup 54 = .ok (.aload_n 0, 1) := by decide +kernel
theorem dX8_beginGroup_55 : decode cX8_beginGroup 55 = .ok (.getfield 77, 3) := by decide +kernel
theorem dX8_beginGroup_58 : decode cX8_beginGroup 58 = .ok (.ifCond .ne 7, 3) := by decide +kernel
theorem dX8_beginGroup_61 : decode cX8_beginGroup 61 = .ok (.iconst 0, 1) := by decide +kernel
theorem dX8_beginGroup_62 : decode cX8_beginGroup 62 = .ok (.goto 9, 3) := by decide +kernel
theorem dX8_beginGroup_65 : decode cX8_beginGroup 65 = .ok (.aload_n 0, 1) := by decide +kernel
theorem dX8_beginGroup_66 : decode cX8_beginGroup 66 = .ok (.getfield 26, 3) := by decide +kernel
theorem dX8_beginGroup_69 : decode cX8_beginGroup 69 = .ok (.iconst 0, 1) := by decide +kernel
theorem dX8_beginGroup_70 : decode cX8_beginGroup 70 = .ok (.iaload, 1) := by decide +kernel
theorem dX8_beginGroup_71 : decode cX8_beginGroup 71 = .ok (.iastore, 1) := by decide +kernel
theorem dX8_beginGroup_72 : decode cX8_beginGroup 72 = .ok (.aload_n 0, 1) := by decide +kernel
theorem dX8_beginGroup_73 : decode cX8_beginGroup 73 = .ok (.getfield 7, 3) := by decide +kernel
theorem dX8_beginGroup_76 : decode cX8_beginGroup 76 = .ok (.sipush 768, 3) := by decide +kernel
theorem dX8_beginGroup_79 : decode cX8_beginGroup 79 = .ok (.iconst 3, 1) := by decide +kernel
theorem dX8_beginGroup_80 : decode cX8_beginGroup 80 = .ok (.aload_n 0, 1) := by decide +kernel
theorem dX8_beginGroup_81 : decode cX8_beginGroup 81 = .ok (.getfield 80, 3) := by decide +kernel
theorem dX8_beginGroup_84 : decode cX8_beginGroup 84 = .ok (.imul, 1) := by decide +kernel
theorem dX8_beginGroup_85 : decode cX8_beginGroup 85 = .ok (.iadd, 1) := by decide +kernel
theorem dX8_beginGroup_86 : decode cX8_beginGroup 86 = .ok (.iconst 2, 1) := by decide +kernel
theorem dX8_beginGroup_87 : decode cX8_beginGroup 87 = .ok (.iadd, 1) := by decide +kernel
theorem dX8_beginGroup_88 : decode cX8_beginGroup 88 = .ok (.aload_n 0, 1) := by decide +kernel
theorem dX8_beginGroup_89 : decode cX8_beginGroup 89 = .ok (.getfield 87, 3) := by decide +kernel
theorem dX8_beginGroup_92 : decode cX8_beginGroup 92 = .ok (.ifCond .ne 8, 3) := by decide +kernel
theorem dX8_beginGroup_95 : decode cX8_beginGroup 95 = .ok (.bipush (-6), 2) := by decide +kernel
theorem dX8_beginGroup_97 : decode cX8_beginGroup 97 = .ok (.goto 14, 3) := by decide +kernel
theorem dX8_beginGroup_100 : decode cX8_beginGroup 100 = .ok (.aload_n 0, 1) := by decide +kernel
theorem dX8_beginGroup_101 : decode cX8_beginGroup 101 = .ok (.getfield 29, 3) := by decide +kernel
theorem dX8_beginGroup_104 : decode cX8_beginGroup 104 = .ok (.aload_n 0, 1) := by decide +kernel
theorem dX8_beginGroup_105 : decode cX8_beginGroup 105 = .ok (.getfield 87, 3) := by decide +kernel
theorem dX8_beginGroup_108 : decode cX8_beginGroup 108 = .ok (.iconst 1, 1) := by decide +kernel
theorem dX8_beginGroup_109 : decode cX8_beginGroup 109 = .ok (.isub, 1) := by decide +kernel
theorem dX8_beginGroup_110 : decode cX8_beginGroup 110 = .ok (.iaload, 1) := by decide +kernel
theorem dX8_beginGroup_111 : decode cX8_beginGroup 111 = .ok (.iastore, 1) := by decide +kernel
theorem dX8_beginGroup_112 : decode cX8_beginGroup 112 = .ok (.aload_n 0, 1) := by decide +kernel
theorem dX8_beginGroup_113 : decode cX8_beginGroup 113 = .ok (.getfield 29, 3) := by decide +kernel
theorem dX8_beginGroup_116 : decode cX8_beginGroup 116 = .ok (.aload_n 0, 1) := by decide +kernel
theorem dX8_beginGroup_117 : decode cX8_beginGroup 117 = .ok (.getfield 87, 3) := by decide +kernel
theorem dX8_beginGroup_120 : decode cX8_beginGroup 120 = .ok (.aload_n 0, 1) := by decide +kernel
theorem dX8_beginGroup_121 : decode cX8_beginGroup 121 = .ok (.getfield 80, 3) := by decide +kernel
theorem dX8_beginGroup_124 : decode cX8_beginGroup 124 = .ok (.iastore, 1) := by decide +kernel
theorem dX8_beginGroup_125 : decode cX8_beginGroup 125 = .ok (.aload_n 0, 1) := by decide +kernel
theorem dX8_beginGroup_126 : decode cX8_beginGroup 126 = .ok (.dup, 1) := by decide +kernel
theorem dX8_beginGroup_127 : decode cX8_beginGroup 127 = .ok (.getfield 87, 3) := by decide +kernel
theorem dX8_beginGroup_130 : decode cX8_beginGroup 130 = .ok (.iconst 1, 1) := by decide +kernel
theorem dX8_beginGroup_131 : decode cX8_beginGroup 131 = .ok (.iadd, 1) := by decide +kernel
theorem dX8_beginGroup_132 : decode cX8_beginGroup 132 = .ok (.putfield 87, 3) := by decide +kernel
theorem dX8_beginGroup_135 : decode cX8_beginGroup 135 = .ok (.aload_n 0, 1) := by decide +kernel
theorem dX8_beginGroup_136 : decode cX8_beginGroup 136 = .ok (.dup, 1) := by decide +kernel
theorem dX8_beginGroup_137 : decode cX8_beginGroup 137 = .ok (.getfield 80, 3) := by decide +kernel
theorem dX8_beginGroup_140 : decode cX8_beginGroup 140 = .ok (.iconst 1, 1) := by decide +kernel
theorem dX8_beginGroup_141 : decode cX8_beginGroup 141 = .ok (.iadd, 1) := by decide +kernel
theorem dX8_beginGroup_142 : decode cX8_beginGroup 142 = .ok (.putfield 80, 3) := by decide +kernel
theorem dX8_beginGroup_145 : decode cX8_beginGroup 145 = .ok (.iconst 0, 1) := by decide +kernel
theorem dX8_beginGroup_146 : decode cX8_beginGroup 146 = .ok (.ireturn, 1) := by decide +kernel
theorem dX8_endGroup_0 : decode cX8_endGroup 0 = .ok (.aload_n 0, 1) := by decide +kernel
theorem dX8_endGroup_1 : decode cX8_endGroup 1 = .ok (.getfield 87, 3) := by decide +kernel
theorem dX8_endGroup_4 : decode cX8_endGroup 4 = .ok (.ifCond .ne 6, 3) := by decide +kernel
theorem dX8_endGroup_7 : decode cX8_endGroup 7 = .ok (.bipush 10, 2) := by decide +kernel
theorem dX8_endGroup_9 : decode cX8_endGroup 9 = .ok (.ireturn, 1) := by decide +kernel
theorem dX8_endGroup_10 : decode cX8_endGroup 10 = .ok (.aload_n 0, 1) := by decide +kernel
theorem dX8_endGroup_11 : decode cX8_endGroup 11 = .ok (.dup, 1) := by decide +kernel
theorem dX8_endGroup_12 : decode cX8_endGroup 12 = .ok (.getfield 87, 3) := by decide +kernel
theorem dX8_endGroup_15 : decode cX8_endGroup 15 = .ok (.iconst 1, 1) := by decide +kernel
theorem dX8_endGroup_16 : decode cX8_endGroup 16 = .ok (.isub, 1) := by decide +kernel
theorem dX8_endGroup_17 : decode cX8_endGroup 17 = .ok (.putfield 87, 3) := by decide +kernel
theorem dX8_endGroup_20 : decode cX8_endGroup 20 = .ok (.iconst 0, 1) := by decide +kernel
theorem dX8_endGroup_21 : decode cX8_endGroup 21 = .ok (.ireturn, 1) := by decide +kernel
theorem dX8_buildField_0 : decode cX8_buildField 0 = .ok (.bipush 96, 2) := by decide +kernel
theorem dX8_buildField_2 : decode cX8_buildField 2 = .ok (.bipush 14, 2) := by decide +kernel
theorem dX8_buildField_4 : decode cX8_buildField 4 = .ok (.aload_n 0, 1) := by decide +kernel
theorem dX8_buildField_5 : decode cX8_buildField 5 = .ok (.getfield 90, 3) := by decide +kernel
theorem dX8_buildField_8 : decode cX8_buildField 8 = .ok (.imul, 1) := by decide +kernel
theorem dX8_buildField_9 : decode cX8_buildField 9 = .ok (.iadd, 1) := by decide +kernel
theorem dX8_buildField_10 : decode cX8_buildField 10 = .ok (.istore 4, 2) := by decide +kernel
theorem dX8_buildField_12 : decode cX8_buildField 12 = .ok (.aload_n 0, 1) := by decide +kernel
theorem dX8_buildField_13 : decode cX8_buildField 13 = .ok (.getfield 52, 3) := by decide +kernel
theorem dX8_buildField_16 : decode cX8_buildField 16 = .ok (.iconst 2, 1) := by decide +kernel
theorem dX8_buildField_17 : decode cX8_buildField 17 = .ok (.idiv, 1) := by decide +kernel
theorem dX8_buildField_18 : decode cX8_buildField 18 = .ok (.iconst 2, 1) := by decide +kernel
theorem dX8_buildField_19 : decode cX8_buildField 19 = .ok (.irem, 1) := by decide +kernel
theorem dX8_buildField_20 : decode cX8_buildField 20 = .ok (.iconst 1, 1) := by decide +kernel
theorem dX8_buildField_21 : decode cX8_buildField 21 = .ok (.if_icmp .ne 7, 3) := by decide +kernel
theorem dX8_buildField_24 : decode cX8_buildField 24 = .ok (.iconst 1, 1) := by decide +kernel
theorem dX8_buildField_25 : decode cX8_buildField 25 = .ok (.goto 4, 3) := by decide +kernel
theorem dX8_buildField_28 : decode cX8_buildField 28 = .ok (.iconst 0, 1) := by decide +kernel
theorem dX8_buildField_29 : decode cX8_buildField 29 = .ok (.istore 5, 2) := by decide +kernel
theorem dX8_buildField_31 : decode cX8_buildField 31 = .ok (.aload_n 0, 1) := by decide +kernel
theorem dX8_buildField_32 : decode cX8_buildField 32 = .ok (.getfield 7, 3) := by decide +kernel
theorem dX8_buildField_35 : decode cX8_buildField 35 = .ok (.iload 4, 2) := by decide +kernel
theorem dX8_buildField_37 : decode cX8_buildField 37 = .ok (.iconst 0, 1) := by decide +kernel
theorem dX8_buildField_38 : decode cX8_buildField 38 = .ok (.iadd, 1) := by decide +kernel
theorem dX8_buildField_39 : decode cX8_buildField 39 = .ok (.iload_n 1, 1) := by decide +kernel
theorem dX8_buildField_40 : decode cX8_buildField 40 = .ok (.iastore, 1) := by decide +kernel
theorem dX8_buildField_41 : decode cX8_buildField 41 = .ok (.aload_n 0, 1) := by decide +kernel
theorem dX8_buildField_42 : decode cX8_buildField 42 = .ok (.getfield 7, 3) := by decide +kernel
theorem dX8_buildField_45 : decode cX8_buildField 45 = .ok (.iload 4, 2) := by decide +kernel
theorem dX8_buildField_47 : decode cX8_buildField 47 = .ok (.iconst 1, 1) := by decide +kernel
theorem dX8_buildField_48 : decode cX8_buildField 48 = .ok (.iadd, 1) := by decide +kernel
theorem dX8_buildField_49 : decode cX8_buildField 49 = .ok (.aload_n 0, 1) := by decide +kernel
theorem dX8_buildField_50 : decode cX8_buildField 50 = .ok (.getfield 20, 3) := by decide +kernel
theorem dX8_buildField_53 : decode cX8_buildField 53 = .ok (.iconst 4, 1) := by decide +kernel
theorem dX8_buildField_54 : decode cX8_buildField 54 = .ok (.iaload, 1) := by decide +kernel
theorem dX8_buildField_55 : decode cX8_buildField 55 = .ok (.iastore, 1) := by decide +kernel
theorem dX8_buildField_56 : decode cX8_buildField 56 = .ok (.aload_n 0, 1) := by decide +kernel
theorem dX8_buildField_57 : decode cX8_buildField 57 = .ok (.getfield 7, 3) := by decide +kernel
theorem dX8_buildField_60 : decode cX8_buildField 60 = .ok (.iload 4, 2) := by decide +kernel
theorem dX8_buildField_62 : decode cX8_buildField 62 = .ok (.iconst 2, 1) := by decide +kernel
theorem dX8_buildField_63 : decode cX8_buildField 63 = .ok (.iadd, 1) := by decide +kernel
theorem dX8_buildField_64 : decode cX8_buildField 64 = .ok (.iload_n 3, 1) := by decide +kernel
theorem dX8_buildField_65 : decode cX8_buildField 65 = .ok (.iastore, 1) := by decide +kernel
theorem dX8_buildField_66 : decode cX8_buildField 66 = .ok (.aload_n 0, 1) := by decide +kernel
theorem dX8_buildField_67 : decode cX8_buildField 67 = .ok (.getfield 7, 3) := by decide +kernel
theorem dX8_buildField_70 : decode cX8_buildField 70 = .ok (.iload 4, 2) := by decide +kernel
theorem dX8_buildField_72 : decode cX8_buildField 72 = .ok (.iconst 3, 1) := by decide +kernel
theorem dX8_buildField_73 : decode cX8_buildField 73 = .ok (.iadd, 1) := by decide +kernel
theorem dX8_buildField_74 : decode cX8_buildField 74 = .ok (.aload_n 0, 1) := by decide +kernel
theorem dX8_buildField_75 : decode cX8_buildField 75 = .ok (.getfield 20, 3) := by decide +kernel
theorem dX8_buildField_78 : decode cX8_buildField 78 = .ok (.iconst 3, 1) := by decide +kernel
theorem dX8_buildField_79 : decode cX8_buildField 79 = .ok (.iaload, 1) := by decide +kernel
theorem dX8_buildField_80 : decode cX8_buildField 80 = .ok (.iastore, 1) := by decide +kernel
theorem dX8_buildField_81 : decode cX8_buildField 81 = .ok (.aload_n 0, 1) := by decide +kernel
theorem dX8_buildField_82 : decode cX8_buildField 82 = .ok (.getfield 7, 3) := by decide +kernel
theorem dX8_buildField_85 : decode cX8_buildField 85 = .ok (.iload 4, 2) := by decide +kernel
theorem dX8_buildField_87 : decode cX8_buildField 87 = .ok (.iconst 4, 1) := by decide +kernel
theorem dX8_buildField_88 : decode cX8_buildField 88 = .ok (.iadd, 1) := by decide +kernel
theorem dX8_buildField_89 : decode cX8_buildField 89 = .ok (.aload_n 0, 1) := by decide +kernel
theorem dX8_buildField_90 : decode cX8_buildField 90 = .ok (.getfield 20, 3) := by decide +kernel
theorem dX8_buildField_93 : decode cX8_buildField 93 = .ok (.iconst 1, 1) := by decide +kernel
theorem dX8_buildField_94 : decode cX8_buildField 94 = .ok (.iaload, 1) := by decide +kernel
theorem dX8_buildField_95 : decode cX8_buildField 95 = .ok (.iastore, 1) := by decide +kernel
theorem dX8_buildField_96 : decode cX8_buildField 96 = .ok (.aload_n 0, 1) := by decide +kernel
theorem dX8_buildField_97 : decode cX8_buildField 97 = .ok (.getfield 7, 3) := by decide +kernel
theorem dX8_buildField_100 : decode cX8_buildField 100 = .ok (.iload 4, 2) := by decide +kernel
theorem dX8_buildField_102 : decode cX8_buildField 102 = .ok (.iconst 5, 1) := by decide +kernel
theorem dX8_buildField_103 : decode cX8_buildField 103 = .ok (.iadd, 1) := by decide +kernel
theorem dX8_buildField_104 : decode cX8_buildField 104 = .ok (.aload_n 0, 1) := by decide +kernel
theorem dX8_buildField_105 : decode cX8_buildField 105 = .ok (.getfield 20, 3) := by decide +kernel
theorem dX8_buildField_108 : decode cX8_buildField 108 = .ok (.iconst 2, 1) := by decide +kernel
theorem dX8_buildField_109 : decode cX8_buildField 109 = .ok (.iaload, 1) := by decide +kernel
theorem dX8_buildField_110 : decode cX8_buildField 110 = .ok (.iastore, 1) := by decide +kernel
theorem dX8_buildField_111 : decode cX8_buildField 111 = .ok (.aload_n 0, 1) := by decide +kernel
theorem dX8_buildField_112 : decode cX8_buildField 112 = .ok (.getfield 7, 3) := by decide +kernel
theorem dX8_buildField_115 : decode cX8_buildField 115 = .ok (.iload 4, 2) := by decide +kernel
theorem dX8_buildField_117 : decode cX8_buildField 117 = .ok (.bipush 6, 2) := by decide +kernel
theorem dX8_buildField_119 : decode cX8_buildField 119 = .ok (.iadd, 1) := by decide +kernel
theorem dX8_buildField_120 : decode cX8_buildField 120 = .ok (.iload 5, 2) := by decide +kernel
theorem dX8_buildField_122 : decode cX8_buildField 122 = .ok (.ifCond .eq 7, 3) := by decide +kernel
theorem dX8_buildField_125 : decode cX8_buildField 125 = .ok (.iconst 0, 1) := by decide +kernel
theorem dX8_buildField_126 : decode cX8_buildField 126 = .ok (.goto 4, 3) := by decide +kernel
theorem dX8_buildField_129 : decode cX8_buildField 129 = .ok (.iconst 1, 1) := by decide +kernel
theorem dX8_buildField_130 : decode cX8_buildField 130 = .ok (.iastore, 1) := by decide +kernel
theorem dX8_buildField_131 : decode cX8_buildField 131 = .ok (.aload_n 0, 1) := by decide +kernel
theorem dX8_buildField_132 : decode cX8_buildField 132 = .ok (.getfield 7, 3) := by decide +kernel
theorem dX8_buildField_135 : decode cX8_buildField 135 = .ok (.iload 4, 2) := by decide +kernel
theorem dX8_buildField_137 : decode cX8_buildField 137 = .ok (.bipush 7, 2) := by decide +kernel
theorem dX8_buildField_139 : decode cX8_buildField 139 = .ok (.iadd, 1) := by decide +kernel
theorem dX8_buildField_140 : decode cX8_buildField 140 = .ok (.iload 5, 2) := by decide +kernel
theorem dX8_buildField_142 : decode cX8_buildField 142 = .ok (.ifCond .eq 19, 3) := by decide +kernel
theorem dX8_buildField_145 : decode cX8_buildField 145 = .ok (.aload_n 0, 1) := by decide +kernel
theorem dX8_buildField_146 : decode cX8_buildField 146 = .ok (.getfield 52, 3) := by decide +kernel
theorem dX8_buildField_149 : decode cX8_buildField 149 = .ok (.iconst 4, 1) := by decide +kernel
theorem dX8_buildField_150 : decode cX8_buildField 150 = .ok (.idiv, 1) := by decide +kernel
theorem dX8_buildField_151 : decode cX8_buildField 151 = .ok (.iconst 2, 1) := by decide +kernel
theorem dX8_buildField_152 : decode cX8_buildField 152 = .ok (.irem, 1) := by decide +kernel
theorem dX8_buildField_153 : decode cX8_buildField 153 = .ok (.iconst 1, 1) := by decide +kernel
theorem dX8_buildField_154 : decode cX8_buildField 154 = .ok (.if_icmp .ne 7, 3) := by decide +kernel
theorem dX8_buildField_157 : decode cX8_buildField 157 = .ok (.iconst 1, 1) := by decide +kernel
theorem dX8_buildField_158 : decode cX8_buildField 158 = .ok (.goto 4, 3) := by decide +kernel
theorem dX8_buildField_161 : decode cX8_buildField 161 = .ok (.iconst 0, 1) := by decide +kernel
theorem dX8_buildField_162 : decode cX8_buildField 162 = .ok (.iastore, 1) := by decide +kernel
theorem dX8_buildField_163 : decode cX8_buildField 163 = .ok (.aload_n 0, 1) := by decide +kernel
theorem dX8_buildField_164 : decode cX8_buildField 164 = .ok (.getfield 7, 3) := by decide +kernel
theorem dX8_buildField_167 : decode cX8_buildField 167 = .ok (.iload 4, 2) := by decide +kernel
theorem dX8_buildField_169 : decode cX8_buildField 169 = .ok (.bipush 8, 2) := by decide +kernel
theorem dX8_buildField_171 : decode cX8_buildField 171 = .ok (.iadd, 1) := by decide +kernel
theorem dX8_buildField_172 : decode cX8_buildField 172 = .ok (.aload_n 0, 1) := by decide +kernel
theorem dX8_buildField_173 : decode cX8_buildField 173 = .ok (.getfield 20, 3) := by decide +kernel
theorem dX8_buildField_176 : decode cX8_buildField 176 = .ok (.iconst 0, 1) := by decide +kernel
theorem dX8_buildField_177 : decode cX8_buildField 177 = .ok (.iaload, 1) := by decide +kernel
theorem dX8_buildField_178 : decode cX8_buildField 178 = .ok (.iastore, 1) := by decide +kernel
theorem dX8_buildField_179 : decode cX8_buildField 179 = .ok (.aload_n 0, 1) := by decide +kernel
theorem dX8_buildField_180 : decode cX8_buildField 180 = .ok (.getfield 7, 3) := by decide +kernel
theorem dX8_buildField_183 : decode cX8_buildField 183 = .ok (.iload 4, 2) := by decide +kernel
theorem dX8_buildField_185 : decode cX8_buildField 185 = .ok (.bipush 9, 2) := by decide +kernel
theorem dX8_buildField_187 : decode cX8_buildField 187 = .ok (.iadd, 1) := by decide +kernel
theorem dX8_buildField_188 : decode cX8_buildField 188 = .ok (.iload 5, 2) := by decide +kernel
theorem dX8_buildField_190 : decode cX8_buildField 190 = .ok (.ifCond .eq 8, 3) := by decide +kernel
theorem dX8_buildField_193 : decode cX8_buildField 193 = .ok (.bipush (-6), 2) := by decide +kernel
theorem dX8_buildField_195 : decode cX8_buildField 195 = .ok (.goto 7, 3) := by decide +kernel
theorem dX8_buildField_198 : decode cX8_buildField 198 = .ok (.aload_n 0, 1) := by decide +kernel
theorem dX8_buildField_199 : decode cX8_buildField 199 = .ok (.getfield 93, 3) := by decide +kernel
theorem dX8_buildField_202 : decode cX8_buildField 202 = .ok (.iastore, 1) := by decide +kernel
theorem dX8_buildField_203 : decode cX8_buildField 203 = .ok (.aload_n 0, 1) := by decide +kernel
theorem dX8_buildField_204 : decode cX8_buildField 204 = .ok (.getfield 7, 3) := by decide +kernel
theorem dX8_buildField_207 : decode cX8_buildField 207 = .ok (.iload 4, 2) := by decide +kernel
theorem dX8_buildField_209 : decode cX8_buildField 209 = .ok (.bipush 10, 2) := by decide +kernel
theorem dX8_buildField_211 : decode cX8_buildField 211 = .ok (.iadd, 1) := by decide +kernel
theorem dX8_buildField_212 : decode cX8_buildField 212 = .ok (.aload_n 0, 1) := by decide +kernel
theorem dX8_buildField_213 : decode cX8_buildField 213 = .ok (.getfield 77, 3) := by decide +kernel
theorem dX8_buildField_216 : decode cX8_buildField 216 = .ok (.ifCond .ne 7, 3) := by decide +kernel
theorem dX8_buildField_219 : decode cX8_buildField 219 = .ok (.iconst 0, 1) := by decide +kernel
theorem dX8_buildField_220 : decode cX8_buildField 220 = .ok (.goto 26, 3) := by decide +kernel
theorem dX8_buildField_223 : decode cX8_buildField 223 = .ok (.aload_n 0, 1) := by decide +kernel
theorem dX8_buildField_224 : decode cX8_buildField 224 = .ok (.getfield 26, 3) := by decide +kernel
theorem dX8_buildField_227 : decode cX8_buildField 227 = .ok (.iload_n 2, 1) := by decide +kernel
theorem dX8_buildField_228 : decode cX8_buildField 228 = .ok (.aload_n 0, 1) := by decide +kernel
theorem dX8_buildField_229 : decode cX8_buildField 229 = .ok (.getfield 77, 3) := by decide +kernel
theorem dX8_buildField_232 : decode cX8_buildField 232 = .ok (.if_icmp .ge 7, 3) := by decide +kernel
theorem dX8_buildField_235 : decode cX8_buildField 235 = .ok (.iload_n 2, 1) := by decide +kernel
theorem dX8_buildField_236 : decode cX8_buildField 236 = .ok (.goto 9, 3) := by decide +kernel
theorem dX8_buildField_239 : decode cX8_buildField 239 = .ok (.aload_n 0, 1) := by decide +kernel
theorem dX8_buildField_240 : decode cX8_buildField 240 = .ok (.getfield 77, 3) := by decide +kernel
theorem dX8_buildField_243 : decode cX8_buildField 243 = .ok (.iconst 1, 1) := by decide +kernel
theorem dX8_buildField_244 : decode cX8_buildField 244 = .ok (.isub, 1) := by decide +kernel
theorem dX8_buildField_245 : decode cX8_buildField 245 = .ok (.iaload, 1) := by decide +kernel
theorem dX8_buildField_246 : decode cX8_buildField 246 = .ok (.iastore, 1) := by decide +kernel
theorem dX8_buildField_247 : decode cX8_buildField 247 = .ok (.aload_n 0, 1) := by decide +kernel
theorem dX8_buildField_248 : decode cX8_buildField 248 = .ok (.getfield 7, 3) := by decide +kernel
theorem dX8_buildField_251 : decode cX8_buildField 251 = .ok (.iload 4, 2) := by decide +kernel
theorem dX8_buildField_253 : decode cX8_buildField 253 = .ok (.bipush 11, 2) := by decide +kernel
theorem dX8_buildField_255 : decode cX8_buildField 255 = .ok (.iadd, 1) := by decide +kernel
theorem dX8_buildField_256 : decode cX8_buildField 256 = .ok (.aload_n 0, 1) := by decide +kernel
theorem dX8_buildField_257 : decode cX8_buildField 257 = .ok (.getfield 87, 3) := by decide +kernel
theorem dX8_buildField_260 : decode cX8_buildField 260 = .ok (.ifCond .ne 8, 3) := by decide +kernel
theorem dX8_buildField_263 : decode cX8_buildField 263 = .ok (.bipush (-6), 2) := by decide +kernel
theorem dX8_buildField_265 : decode cX8_buildField 265 = .ok (.goto 14, 3) := by decide +kernel
theorem dX8_buildField_268 : decode cX8_buildField 268 = .ok (.aload_n 0, 1) := by decide +kernel
theorem dX8_buildField_269 : decode cX8_buildField 269 = .ok (.getfield 29, 3) := by decide +kernel
theorem dX8_buildField_272 : decode cX8_buildField 272 = .ok (.aload_n 0, 1) := by decide +kernel
theorem dX8_buildField_273 : decode cX8_buildField 273 = .ok (.getfield 87, 3) := by decide +kernel
theorem dX8_buildField_276 : decode cX8_buildField 276 = .ok (.iconst 1, 1) := by decide +kernel
theorem dX8_buildField_277 : decode cX8_buildField 277 = .ok (.isub, 1) := by decide +kernel
theorem dX8_buildField_278 : decode cX8_buildField 278 = .ok (.iaload, 1) := by decide +kernel
theorem dX8_buildField_279 : decode cX8_buildField 279 = .ok (.iastore, 1) := by decide +kernel
theorem dX8_buildField_280 : decode cX8_buildField 280 = .ok (.aload_n 0, 1) := by decide +kernel
theorem dX8_buildField_281 : decode cX8_buildField 281 = .ok (.getfield 7, 3) := by decide +kernel
theorem dX8_buildField_284 : decode cX8_buildField 284 = .ok (.iload 4, 2) := by decide +kernel
theorem dX8_buildField_286 : decode cX8_buildField 286 = .ok (.bipush 12, 2) := by decide +kernel
theorem dX8_buildField_288 : decode cX8_buildField 288 = .ok (.iadd, 1) := by decide +kernel
theorem dX8_buildField_289 : decode cX8_buildField 289 = .ok (.iconst 0, 1) := by decide +kernel
theorem dX8_buildField_290 : decode cX8_buildField 290 = .ok (.iastore, 1) := by decide +kernel
theorem dX8_buildField_291 : decode cX8_buildField 291 = .ok (.aload_n 0, 1) := by decide +kernel
theorem dX8_buildField_292 : decode cX8_buildField 292 = .ok (.getfield 7, 3) := by decide +kernel
theorem dX8_buildField_295 : decode cX8_buildField 295 = .ok (.iload 4, 2) := by decide +kernel
theorem dX8_buildField_297 : decode cX8_buildField 297 = .ok (.bipush 13, 2) := by decide +kernel
theorem dX8_buildField_299 : decode cX8_buildField 299 = .ok (.iadd, 1) := by decide +kernel
theorem dX8_buildField_300 : decode cX8_buildField 300 = .ok (.iconst 0, 1) := by decide +kernel
theorem dX8_buildField_301 : decode cX8_buildField 301 = .ok (.iastore, 1) := by decide +kernel
theorem dX8_buildField_302 : decode cX8_buildField 302 = .ok (.return_, 1) := by decide +kernel
theorem dX8_buildSlots_0 : decode cX8_buildSlots 0 = .ok (.aload_n 0, 1) := by decide +kernel
theorem dX8_buildSlots_1 : decode cX8_buildSlots 1 = .ok (.getfield 7, 3) := by decide +kernel
theorem dX8_buildSlots_4 : decode cX8_buildSlots 4 = .ok (.sipush 2388, 3) := by decide +kernel
theorem dX8_buildSlots_7 : decode cX8_buildSlots 7 = .ok (.aload_n 0, 1) := by decide +kernel
theorem dX8_buildSlots_8 : decode cX8_buildSlots 8 = .ok (.getfield 93, 3) := by decide +kernel
theorem dX8_buildSlots_11 : decode cX8_buildSlots 11 = .ok (.iadd, 1) := by decide +kernel
theorem dX8_buildSlots_12 : decode cX8_buildSlots 12 = .ok (.aload_n 0, 1) := by decide +kernel
theorem dX8_buildSlots_13 : decode cX8_buildSlots 13 = .ok (.getfield 77, 3) := by decide +kernel
theorem dX8_buildSlots_16 : decode cX8_buildSlots 16 = .ok (.iastore, 1) := by decide +kernel
theorem dX8_buildSlots_17 : decode cX8_buildSlots 17 = .ok (.aload_n 0, 1) := by decide +kernel
theorem dX8_buildSlots_18 : decode cX8_buildSlots 18 = .ok (.getfield 7, 3) := by decide +kernel
theorem dX8_buildSlots_21 : decode cX8_buildSlots 21 = .ok (.sipush 2436, 3) := by decide +kernel
theorem dX8_buildSlots_24 : decode cX8_buildSlots 24 = .ok (.aload_n 0, 1) := by decide +kernel
theorem dX8_buildSlots_25 : decode cX8_buildSlots 25 = .ok (.getfield 93, 3) := by decide +kernel
theorem dX8_buildSlots_28 : decode cX8_buildSlots 28 = .ok (.iadd, 1) := by decide +kernel
theorem dX8_buildSlots_29 : decode cX8_buildSlots 29 = .ok (.iconst 0, 1) := by decide +kernel
theorem dX8_buildSlots_30 : decode cX8_buildSlots 30 = .ok (.iastore, 1) := by decide +kernel
theorem dX8_buildSlots_31 : decode cX8_buildSlots 31 = .ok (.iconst 0, 1) := by decide +kernel
theorem dX8_buildSlots_32 : decode cX8_buildSlots 32 = .ok (.istore_n 1, 1) := by decide +kernel
theorem dX8_buildSlots_33 : decode cX8_buildSlots 33 = .ok (.iload_n 1, 1) := by decide +kernel
theorem dX8_buildSlots_34 : decode cX8_buildSlots 34 = .ok (.aload_n 0, 1) := by decide +kernel
theorem dX8_buildSlots_35 : decode cX8_buildSlots 35 = .ok (.getfield 77, 3) := by decide +kernel
theorem dX8_buildSlots_38 : decode cX8_buildSlots 38 = .ok (.if_icmp .ge 33, 3) := by decide +kernel
theorem dX8_buildSlots_41 : decode cX8_buildSlots 41 = .ok (.aload_n 0, 1) := by decide +kernel
theorem dX8_buildSlots_42 : decode cX8_buildSlots 42 = .ok (.getfield 7, 3) := by decide +kernel
theorem dX8_buildSlots_45 : decode cX8_buildSlots 45 = .ok (.sipush 852, 3) := by decide +kernel
theorem dX8_buildSlots_48 : decode cX8_buildSlots 48 = .ok (.bipush 32, 2) := by decide +kernel
theorem dX8_buildSlots_50 : decode cX8_buildSlots 50 = .ok (.aload_n 0, 1) := by decide +kernel
theorem dX8_buildSlots_51 : decode cX8_buildSlots 51 = .ok (.getfield 93, 3) := by decide +kernel
theorem dX8_buildSlots_54 : decode cX8_buildSlots 54 = .ok (.imul, 1) := by decide +kernel
theorem dX8_buildSlots_55 : decode cX8_buildSlots 55 = .ok (.iadd, 1) := by decide +kernel
theorem dX8_buildSlots_56 : decode cX8_buildSlots 56 = .ok (.iload_n 1, 1) := by decide +kernel
theorem dX8_buildSlots_57 : decode cX8_buildSlots 57 = .ok (.iadd, 1) := by decide +kernel
theorem dX8_buildSlots_58 : decode cX8_buildSlots 58 = .ok (.aload_n 0, 1) := by decide +kernel
theorem dX8_buildSlots_59 : decode cX8_buildSlots 59 = .ok (.getfield 26, 3) := by decide +kernel
theorem dX8_buildSlots_62 : decode cX8_buildSlots 62 = .ok (.iload_n 1, 1) := by decide +kernel
theorem dX8_buildSlots_63 : decode cX8_buildSlots 63 = .ok (.iaload, 1) := by decide +kernel
theorem dX8_buildSlots_64 : decode cX8_buildSlots 64 = .ok (.iastore, 1) := by decide +kernel
theorem dX8_buildSlots_65 : decode cX8_buildSlots 65 = .ok (.iinc 1 1, 3) := by decide +kernel
theorem dX8_buildSlots_68 : decode cX8_buildSlots 68 = .ok (.goto (-35), 3) := by decide +kernel
theorem dX8_buildSlots_71 : decode cX8_buildSlots 71 = .ok (.return_, 1) := by decide +kernel
theorem dX8_makeFields_0 : decode cX8_makeFields 0 = .ok (.bipush 16, 2) := by decide +kernel
theorem dX8_makeFields_2 : decode cX8_makeFields 2 = .ok (.iload_n 1, 1) := by decide +kernel
theorem dX8_makeFields_3 : decode cX8_makeFields 3 = .ok (.imul, 1) := by decide +kernel
theorem dX8_makeFields_4 : decode cX8_makeFields 4 = .ok (.aload_n 0, 1) := by decide +kernel
theorem dX8_makeFields_5 : decode cX8_makeFields 5 = .ok (.getfield 20, 3) := by decide +kernel
theorem dX8_makeFields_8 : decode cX8_makeFields 8 = .ok (.iconst 4, 1) := by decide +kernel
theorem dX8_makeFields_9 : decode cX8_makeFields 9 = .ok (.iaload, 1) := by decide +kernel
theorem dX8_makeFields_10 : decode cX8_makeFields 10 = .ok (.iadd, 1) := by decide +kernel
theorem dX8_makeFields_11 : decode cX8_makeFields 11 = .ok (.istore_n 2, 1) := by decide +kernel
theorem dX8_makeFields_12 : decode cX8_makeFields 12 = .ok (.aload_n 0, 1) := by decide +kernel
theorem dX8_makeFields_13 : decode cX8_makeFields 13 = .ok (.getfield 52, 3) := by decide +kernel
theorem dX8_makeFields_16 : decode cX8_makeFields 16 = .ok (.iconst 2, 1) := by decide +kernel
theorem dX8_makeFields_17 : decode cX8_makeFields 17 = .ok (.irem, 1) := by decide +kernel
theorem dX8_makeFields_18 : decode cX8_makeFields 18 = .ok (.ifCond .ne 7, 3) := by decide +kernel
theorem dX8_makeFields_21 : decode cX8_makeFields 21 = .ok (.iconst 1, 1) := by decide +kernel
theorem dX8_makeFields_22 : decode cX8_makeFields 22 = .ok (.goto 4, 3) := by decide +kernel
theorem dX8_makeFields_25 : decode cX8_makeFields 25 = .ok (.iconst 0, 1) := by decide +kernel
theorem dX8_makeFields_26 : decode cX8_makeFields 26 = .ok (.istore_n 3, 1) := by decide +kernel
theorem dX8_makeFields_27 : decode cX8_makeFields 27 = .ok (.aload_n 0, 1) := by decide +kernel
theorem dX8_makeFields_28 : decode cX8_makeFields 28 = .ok (.getfield 20, 3) := by decide +kernel
theorem dX8_makeFields_31 : decode cX8_makeFields 31 = .ok (.iconst 3, 1) := by decide +kernel
theorem dX8_makeFields_32 : decode cX8_makeFields 32 = .ok (.iaload, 1) := by decide +kernel
theorem dX8_makeFields_33 : decode cX8_makeFields 33 = .ok (.aload_n 0, 1) := by decide +kernel
theorem dX8_makeFields_34 : decode cX8_makeFields 34 = .ok (.getfield 20, 3) := by decide +kernel
theorem dX8_makeFields_37 : decode cX8_makeFields 37 = .ok (.iconst 5, 1) := by decide +kernel
theorem dX8_makeFields_38 : decode cX8_makeFields 38 = .ok (.iaload, 1) := by decide +kernel
theorem dX8_makeFields_39 : decode cX8_makeFields 39 = .ok (.imul, 1) := by decide +kernel
theorem dX8_makeFields_40 : decode cX8_makeFields 40 = .ok (.istore 4, 2) := by decide +kernel
theorem dX8_makeFields_42 : decode cX8_makeFields 42 = .ok (.iload 4, 2) := by decide +kernel
theorem dX8_makeFields_44 : decode cX8_makeFields 44 = .ok (.ifCond .ne 6, 3) := by decide +kernel
theorem dX8_makeFields_47 : decode cX8_makeFields 47 = .ok (.bipush 11, 2) := by decide +kernel
theorem dX8_makeFields_49 : decode cX8_makeFields 49 = .ok (.ireturn, 1) := by decide +kernel
theorem dX8_makeFields_50 : decode cX8_makeFields 50 = .ok (.aload_n 0, 1) := by decide +kernel
theorem dX8_makeFields_51 : decode cX8_makeFields 51 = .ok (.getfield 20, 3) := by decide +kernel
theorem dX8_makeFields_54 : decode cX8_makeFields 54 = .ok (.iconst 1, 1) := by decide +kernel
theorem dX8_makeFields_55 : decode cX8_makeFields 55 = .ok (.iaload, 1) := by decide +kernel
theorem dX8_makeFields_56 : decode cX8_makeFields 56 = .ok (.aload_n 0, 1) := by decide +kernel
theorem dX8_makeFields_57 : decode cX8_makeFields 57 = .ok (.getfield 20, 3) := by decide +kernel
theorem dX8_makeFields_60 : decode cX8_makeFields 60 = .ok (.iconst 2, 1) := by decide +kernel
theorem dX8_makeFields_61 : decode cX8_makeFields 61 = .ok (.iaload, 1) := by decide +kernel
theorem dX8_makeFields_62 : decode cX8_makeFields 62 = .ok (.if_icmp .le 10, 3) := by decide +kernel
theorem dX8_makeFields_65 : decode cX8_makeFields 65 = .ok (.iload_n 3, 1) := by decide +kernel
theorem dX8_makeFields_66 : decode cX8_makeFields 66 = .ok (.ifCond .eq 6, 3) := by decide +kernel
theorem dX8_makeFields_69 : decode cX8_makeFields 69 = .ok (.bipush 12, 2) := by decide +kernel
theorem dX8_makeFields_71 : decode cX8_makeFields 71 = .ok (.ireturn, 1) := by decide +kernel
theorem dX8_makeFields_72 : decode cX8_makeFields 72 = .ok (.aload_n 0, 1) := by decide +kernel
theorem dX8_makeFields_73 : decode cX8_makeFields 73 = .ok (.getfield 32, 3) := by decide +kernel
theorem dX8_makeFields_76 : decode cX8_makeFields 76 = .ok (.iload_n 2, 1) := by decide +kernel
theorem dX8_makeFields_77 : decode cX8_makeFields 77 = .ok (.iaload, 1) := by decide +kernel
theorem dX8_makeFields_78 : decode cX8_makeFields 78 = .ok (.iload 4, 2) := by decide +kernel
theorem dX8_makeFields_80 : decode cX8_makeFields 80 = .ok (.iadd, 1) := by decide +kernel
theorem dX8_makeFields_81 : decode cX8_makeFields 81 = .ok (.sipush 256, 3) := by decide +kernel
theorem dX8_makeFields_84 : decode cX8_makeFields 84 = .ok (.if_icmp .le 6, 3) := by decide +kernel
theorem dX8_makeFields_87 : decode cX8_makeFields 87 = .ok (.bipush 13, 2) := by decide +kernel
theorem dX8_makeFields_89 : decode cX8_makeFields 89 = .ok (.ireturn, 1) := by decide +kernel
theorem dX8_makeFields_90 : decode cX8_makeFields 90 = .ok (.iload_n 3, 1) := by decide +kernel
theorem dX8_makeFields_91 : decode cX8_makeFields 91 = .ok (.ifCond .eq 22, 3) := by decide +kernel
theorem dX8_makeFields_94 : decode cX8_makeFields 94 = .ok (.aload_n 0, 1) := by decide +kernel
theorem dX8_makeFields_95 : decode cX8_makeFields 95 = .ok (.getfield 90, 3) := by decide +kernel
theorem dX8_makeFields_98 : decode cX8_makeFields 98 = .ok (.aload_n 0, 1) := by decide +kernel
theorem dX8_makeFields_99 : decode cX8_makeFields 99 = .ok (.getfield 20, 3) := by decide +kernel
theorem dX8_makeFields_102 : decode cX8_makeFields 102 = .ok (.iconst 5, 1) := by decide +kernel
theorem dX8_makeFields_103 : decode cX8_makeFields 103 = .ok (.iaload, 1) := by decide +kernel
theorem dX8_makeFields_104 : decode cX8_makeFields 104 = .ok (.iadd, 1) := by decide +kernel
theorem dX8_makeFields_105 : decode cX8_makeFields 105 = .ok (.bipush 48, 2) := by decide +kernel
theorem dX8_makeFields_107 : decode cX8_makeFields 107 = .ok (.if_icmp .le 6, 3) := by decide +kernel
theorem dX8_makeFields_110 : decode cX8_makeFields 110 = .ok (.bipush 14, 2) := by decide +kernel
theorem dX8_makeFields_112 : decode cX8_makeFields 112 = .ok (.ireturn, 1) := by decide +kernel
theorem dX8_makeFields_113 : decode cX8_makeFields 113 = .ok (.iload_n 3, 1) := by decide +kernel
theorem dX8_makeFields_114 : decode cX8_makeFields 114 = .ok (.ifCond .eq 18, 3) := by decide +kernel
theorem dX8_makeFields_117 : decode cX8_makeFields 117 = .ok (.aload_n 0, 1) := by decide +kernel
theorem dX8_makeFields_118 : decode cX8_makeFields 118 = .ok (.getfield 52, 3) := by decide +kernel
theorem dX8_makeFields_121 : decode cX8_makeFields 121 = .ok (.iconst 2, 1) := by decide +kernel
theorem dX8_makeFields_122 : decode cX8_makeFields 122 = .ok (.idiv, 1) := by decide +kernel
theorem dX8_makeFields_123 : decode cX8_makeFields 123 = .ok (.iconst 2, 1) := by decide +kernel
theorem dX8_makeFields_124 : decode cX8_makeFields 124 = .ok (.irem, 1) := by decide +kernel
theorem dX8_makeFields_125 : decode cX8_makeFields 125 = .ok (.ifCond .ne 7, 3) := by decide +kernel
theorem dX8_makeFields_128 : decode cX8_makeFields 128 = .ok (.iconst 1, 1) := by decide +kernel
theorem dX8_makeFields_129 : decode cX8_makeFields 129 = .ok (.goto 4, 3) := by decide +kernel
theorem dX8_makeFields_132 : decode cX8_makeFields 132 = .ok (.iconst 0, 1) := by decide +kernel
theorem dX8_makeFields_133 : decode cX8_makeFields 133 = .ok (.istore 5, 2) := by decide +kernel
theorem dX8_makeFields_135 : decode cX8_makeFields 135 = .ok (.iload 5, 2) := by decide +kernel
theorem dX8_makeFields_137 : decode cX8_makeFields 137 = .ok (.ifCond .eq 14, 3) := by decide +kernel
theorem dX8_makeFields_140 : decode cX8_makeFields 140 = .ok (.aload_n 0, 1) := by decide +kernel
theorem dX8_makeFields_141 : decode cX8_makeFields 141 = .ok (.getfield 83, 3) := by decide +kernel
theorem dX8_makeFields_144 : decode cX8_makeFields 144 = .ok (.ifCond .eq 7, 3) := by decide +kernel
theorem dX8_makeFields_147 : decode cX8_makeFields 147 = .ok (.aload_n 0, 1) := by decide +kernel
theorem dX8_makeFields_148 : decode cX8_makeFields 148 = .ok (.invokevirtual 96, 3) := by decide +kernel
theorem dX8_makeFields_151 : decode cX8_makeFields 151 = .ok (.iconst 0, 1) := by decide +kernel
theorem dX8_makeFields_152 : decode cX8_makeFields 152 = .ok (.istore 6, 2) := by decide +kernel
theorem dX8_makeFields_154 : decode cX8_makeFields 154 = .ok (.iload 6, 2) := by decide +kernel
theorem dX8_makeFields_156 : decode cX8_makeFields 156 = .ok (.aload_n 0, 1) := by decide +kernel
theorem dX8_makeFields_157 : decode cX8_makeFields 157 = .ok (.getfield 20, 3) := by decide +kernel
theorem dX8_makeFields_160 : decode cX8_makeFields 160 = .ok (.iconst 5, 1) := by decide +kernel
theorem dX8_makeFields_161 : decode cX8_makeFields 161 = .ok (.iaload, 1) := by decide +kernel
theorem dX8_makeFields_162 : decode cX8_makeFields 162 = .ok (.if_icmp .ge 103, 3) := by decide +kernel
theorem dX8_makeFields_165 : decode cX8_makeFields 165 = .ok (.iload_n 3, 1) := by decide +kernel
theorem dX8_makeFields_166 : decode cX8_makeFields 166 = .ok (.ifCond .eq 99, 3) := by decide +kernel
theorem dX8_makeFields_169 : decode cX8_makeFields 169 = .ok (.aload_n 0, 1) := by decide +kernel
theorem dX8_makeFields_170 : decode cX8_makeFields 170 = .ok (.getfield 83, 3) := by decide +kernel
theorem dX8_makeFields_173 : decode cX8_makeFields 173 = .ok (.ifCond .eq 26, 3) := by decide +kernel
theorem dX8_makeFields_176 : decode cX8_makeFields 176 = .ok (.aload_n 0, 1) := by decide +kernel
theorem dX8_makeFields_177 : decode cX8_makeFields 177 = .ok (.iload_n 1, 1) := by decide +kernel
theorem dX8_makeFields_178 : decode cX8_makeFields 178 = .ok (.iload 6, 2) := by decide +kernel
theorem dX8_makeFields_180 : decode cX8_makeFields 180 = .ok (.aload_n 0, 1) := by decide +kernel
theorem dX8_makeFields_181 : decode cX8_makeFields 181 = .ok (.getfield 32, 3) := by decide +kernel
theorem dX8_makeFields_184 : decode cX8_makeFields 184 = .ok (.iload_n 2, 1) := by decide +kernel
theorem dX8_makeFields_185 : decode cX8_makeFields 185 = .ok (.iaload, 1) := by decide +kernel
theorem dX8_makeFields_186 : decode cX8_makeFields 186 = .ok (.iload 6, 2) := by decide +kernel
theorem dX8_makeFields_188 : decode cX8_makeFields 188 = .ok (.aload_n 0, 1) := by decide +kernel
theorem dX8_makeFields_189 : decode cX8_makeFields 189 = .ok (.getfield 20, 3) := by decide +kernel
theorem dX8_makeFields_192 : decode cX8_makeFields 192 = .ok (.iconst 3, 1) := by decide +kernel
theorem dX8_makeFields_193 : decode cX8_makeFields 193 = .ok (.iaload, 1) := by decide +kernel
theorem dX8_makeFields_194 : decode cX8_makeFields 194 = .ok (.imul, 1) := by decide +kernel
theorem dX8_makeFields_195 : decode cX8_makeFields 195 = .ok (.iadd, 1) := by decide +kernel
theorem dX8_makeFields_196 : decode cX8_makeFields 196 = .ok (.invokevirtual 99, 3) := by decide +kernel
theorem dX8_makeFields_199 : decode cX8_makeFields 199 = .ok (.aload_n 0, 1) := by decide +kernel
theorem dX8_makeFields_200 : decode cX8_makeFields 200 = .ok (.dup, 1) := by decide +kernel
theorem dX8_makeFields_201 : decode cX8_makeFields 201 = .ok (.getfield 90, 3) := by decide +kernel
theorem dX8_makeFields_204 : decode cX8_makeFields 204 = .ok (.iconst 1, 1) := by decide +kernel
theorem dX8_makeFields_205 : decode cX8_makeFields 205 = .ok (.iadd, 1) := by decide +kernel
theorem dX8_makeFields_206 : decode cX8_makeFields 206 = .ok (.putfield 90, 3) := by decide +kernel
theorem dX8_makeFields_209 : decode cX8_makeFields 209 = .ok (.aload_n 0, 1) := by decide +kernel
theorem dX8_makeFields_210 : decode cX8_makeFields 210 = .ok (.aload_n 0, 1) := by decide +kernel
theorem dX8_makeFields_211 : decode cX8_makeFields 211 = .ok (.getfield 103, 3) := by decide +kernel
theorem dX8_makeFields_214 : decode cX8_makeFields 214 = .ok (.ifCond .ne 12, 3) := by decide +kernel
theorem dX8_makeFields_217 : decode cX8_makeFields 217 = .ok (.aload_n 0, 1) := by decide +kernel
theorem dX8_makeFields_218 : decode cX8_makeFields 218 = .ok (.getfield 20, 3) := by decide +kernel
theorem dX8_makeFields_221 : decode cX8_makeFields 221 = .ok (.iconst 4, 1) := by decide +kernel
theorem dX8_makeFields_222 : decode cX8_makeFields 222 = .ok (.iaload, 1) := by decide +kernel
theorem dX8_makeFields_223 : decode cX8_makeFields 223 = .ok (.ifCond .ne 7, 3) := by decide +kernel
theorem dX8_makeFields_226 : decode cX8_makeFields 226 = .ok (.iconst 1, 1) := by decide +kernel
theorem dX8_makeFields_227 : decode cX8_makeFields 227 = .ok (.goto 4, 3) := by decide +kernel
theorem dX8_makeFields_230 : decode cX8_makeFields 230 = .ok (.iconst 0, 1) := by decide +kernel
theorem dX8_makeFields_231 : decode cX8_makeFields 231 = .ok (.putfield 103, 3) := by decide +kernel
theorem dX8_makeFields_234 : decode cX8_makeFields 234 = .ok (.aload_n 0, 1) := by decide +kernel
theorem dX8_makeFields_235 : decode cX8_makeFields 235 = .ok (.aload_n 0, 1) := by decide +kernel
theorem dX8_makeFields_236 : decode cX8_makeFields 236 = .ok (.getfield 106, 3) := by decide +kernel
theorem dX8_makeFields_239 : decode cX8_makeFields 239 = .ok (.ifCond .ne 12, 3) := by decide +kernel
theorem dX8_makeFields_242 : decode cX8_makeFields 242 = .ok (.aload_n 0, 1) := by decide +kernel
theorem dX8_makeFields_243 : decode cX8_makeFields 243 = .ok (.getfield 20, 3) := by decide +kernel
theorem dX8_makeFields_246 : decode cX8_makeFields 246 = .ok (.iconst 4, 1) := by decide +kernel
theorem dX8_makeFields_247 : decode cX8_makeFields 247 = .ok (.iaload, 1) := by decide +kernel
theorem dX8_makeFields_248 : decode cX8_makeFields 248 = .ok (.ifCond .eq 7, 3) := by decide +kernel
theorem dX8_makeFields_251 : decode cX8_makeFields 251 = .ok (.iconst 1, 1) := by decide +kernel
theorem dX8_makeFields_252 : decode cX8_makeFields 252 = .ok (.goto 4, 3) := by decide +kernel
theorem dX8_makeFields_255 : decode cX8_makeFields 255 = .ok (.iconst 0, 1) := by decide +kernel
theorem dX8_makeFields_256 : decode cX8_makeFields 256 = .ok (.putfield 106, 3) := by decide +kernel
theorem dX8_makeFields_259 : decode cX8_makeFields 259 = .ok (.iinc 6 1, 3) := by decide +kernel
theorem dX8_makeFields_262 : decode cX8_makeFields 262 = .ok (.goto (-108), 3) := by decide +kernel
theorem dX8_makeFields_265 : decode cX8_makeFields 265 = .ok (.aload_n 0, 1) := by decide +kernel
theorem dX8_makeFields_266 : decode cX8_makeFields 266 = .ok (.dup, 1) := by decide +kernel
theorem dX8_makeFields_267 : decode cX8_makeFields 267 = .ok (.getfield 93, 3) := by decide +kernel
theorem dX8_makeFields_270 : decode cX8_makeFields 270 = .ok (.iload 5, 2) := by decide +kernel
theorem dX8_makeFields_272 : decode cX8_makeFields 272 = .ok (.ifCond .eq 7, 3) := by decide +kernel
theorem dX8_makeFields_275 : decode cX8_makeFields 275 = .ok (.iconst 1, 1) := by decide +kernel
theorem dX8_makeFields_276 : decode cX8_makeFields 276 = .ok (.goto 4, 3) := by decide +kernel
theorem dX8_makeFields_279 : decode cX8_makeFields 279 = .ok (.iconst 0, 1) := by decide +kernel
theorem dX8_makeFields_280 : decode cX8_makeFields 280 = .ok (.iadd, 1) := by decide +kernel
theorem dX8_makeFields_281 : decode cX8_makeFields 281 = .ok (.putfield 93, 3) := by decide +kernel
theorem dX8_makeFields_284 : decode cX8_makeFields 284 = .ok (.aload_n 0, 1) := by decide +kernel
theorem dX8_makeFields_285 : decode cX8_makeFields 285 = .ok (.getfield 32, 3) := by decide +kernel
theorem dX8_makeFields_288 : decode cX8_makeFields 288 = .ok (.iload_n 2, 1) := by decide +kernel
theorem dX8_makeFields_289 : decode cX8_makeFields 289 = .ok (.dup2, 1) := by decide +kernel
theorem dX8_makeFields_290 : decode cX8_makeFields 290 = .ok (.iaload, 1) := by decide +kernel
theorem dX8_makeFields_291 : decode cX8_makeFields 291 = .ok (.iload 4, 2) := by decide +kernel
theorem dX8_makeFields_293 : decode cX8_makeFields 293 = .ok (.iadd, 1) := by decide +kernel
theorem dX8_makeFields_294 : decode cX8_makeFields 294 = .ok (.iastore, 1) := by decide +kernel
theorem dX8_makeFields_295 : decode cX8_makeFields 295 = .ok (.iconst 0, 1) := by decide +kernel
theorem dX8_makeFields_296 : decode cX8_makeFields 296 = .ok (.ireturn, 1) := by decide +kernel
theorem dX8_mainItem_0 : decode cX8_mainItem 0 = .ok (.aload_n 0, 1) := by decide +kernel
theorem dX8_mainItem_1 : decode cX8_mainItem 1 = .ok (.getfield 49, 3) := by decide +kernel
theorem dX8_mainItem_4 : decode cX8_mainItem 4 = .ok (.bipush 8, 2) := by decide +kernel
theorem dX8_mainItem_6 : decode cX8_mainItem 6 = .ok (.if_icmp .ne 11, 3) := by decide +kernel
theorem dX8_mainItem_9 : decode cX8_mainItem 9 = .ok (.aload_n 0, 1) := by decide +kernel
theorem dX8_mainItem_10 : decode cX8_mainItem 10 = .ok (.iconst 0, 1) := by decide +kernel
theorem dX8_mainItem_11 : decode cX8_mainItem 11 = .ok (.invokevirtual 109, 3) := by decide +kernel
theorem dX8_mainItem_14 : decode cX8_mainItem 14 = .ok (.goto 70, 3) := by decide +kernel
theorem dX8_mainItem_17 : decode cX8_mainItem 17 = .ok (.aload_n 0, 1) := by decide +kernel
theorem dX8_mainItem_18 : decode cX8_mainItem 18 = .ok (.getfield 49, 3) := by decide +kernel
theorem dX8_mainItem_21 : decode cX8_mainItem 21 = .ok (.bipush 9, 2) := by decide +kernel
theorem dX8_mainItem_23 : decode cX8_mainItem 23 = .ok (.if_icmp .ne 11, 3) := by decide +kernel
theorem dX8_mainItem_26 : decode cX8_mainItem 26 = .ok (.aload_n 0, 1) := by decide +kernel
theorem dX8_mainItem_27 : decode cX8_mainItem 27 = .ok (.iconst 1, 1) := by decide +kernel
theorem dX8_mainItem_28 : decode cX8_mainItem 28 = .ok (.invokevirtual 109, 3) := by decide +kernel
theorem dX8_mainItem_31 : decode cX8_mainItem 31 = .ok (.goto 53, 3) := by decide +kernel
theorem dX8_mainItem_34 : decode cX8_mainItem 34 = .ok (.aload_n 0, 1) := by decide +kernel
theorem dX8_mainItem_35 : decode cX8_mainItem 35 = .ok (.getfield 49, 3) := by decide +kernel
theorem dX8_mainItem_38 : decode cX8_mainItem 38 = .ok (.bipush 11, 2) := by decide +kernel
theorem dX8_mainItem_40 : decode cX8_mainItem 40 = .ok (.if_icmp .ne 11, 3) := by decide +kernel
theorem dX8_mainItem_43 : decode cX8_mainItem 43 = .ok (.aload_n 0, 1) := by decide +kernel
theorem dX8_mainItem_44 : decode cX8_mainItem 44 = .ok (.iconst 2, 1) := by decide +kernel
theorem dX8_mainItem_45 : decode cX8_mainItem 45 = .ok (.invokevirtual 109, 3) := by decide +kernel
theorem dX8_mainItem_48 : decode cX8_mainItem 48 = .ok (.goto 36, 3) := by decide +kernel
theorem dX8_mainItem_51 : decode cX8_mainItem 51 = .ok (.aload_n 0, 1) := by decide +kernel
theorem dX8_mainItem_52 : decode cX8_mainItem 52 = .ok (.getfield 49, 3) := by decide +kernel
theorem dX8_mainItem_55 : decode cX8_mainItem 55 = .ok (.bipush 10, 2) := by decide +kernel
theorem dX8_mainItem_57 : decode cX8_mainItem 57 = .ok (.if_icmp .ne 10, 3) := by decide +kernel
theorem dX8_mainItem_60 : decode cX8_mainItem 60 = .ok (.aload_n 0, 1) := by decide +kernel
theorem dX8_mainItem_61 : decode cX8_mainItem 61 = .ok (.invokevirtual 112, 3) := by decide +kernel
theorem dX8_mainItem_64 : decode cX8_mainItem 64 = .ok (.goto 20, 3) := by decide +kernel
theorem dX8_mainItem_67 : decode cX8_mainItem 67 = .ok (.aload_n 0, 1) := by decide +kernel
theorem dX8_mainItem_68 : decode cX8_mainItem 68 = .ok (.getfield 49, 3) := by decide +kernel
theorem dX8_mainItem_71 : decode cX8_mainItem 71 = .ok (.bipush 12, 2) := by decide +kernel
theorem dX8_mainItem_73 : decode cX8_mainItem 73 = .ok (.if_icmp .ne 10, 3) := by decide +kernel
theorem dX8_mainItem_76 : decode cX8_mainItem 76 = .ok (.aload_n 0, 1) := by decide +kernel
theorem dX8_mainItem_77 : decode cX8_mainItem 77 = .ok (.invokevirtual 115, 3) := by decide +kernel
theorem dX8_mainItem_80 : decode cX8_mainItem 80 = .ok (.goto 4, 3) := by decide +kernel
theorem dX8_mainItem_83 : decode cX8_mainItem 83 = .ok (.iconst 2, 1) := by decide +kernel
theorem dX8_mainItem_84 : decode cX8_mainItem 84 = .ok (.istore_n 1, 1) := by decide +kernel
theorem dX8_mainItem_85 : decode cX8_mainItem 85 = .ok (.aload_n 0, 1) := by decide +kernel
theorem dX8_mainItem_86 : decode cX8_mainItem 86 = .ok (.iconst 0, 1) := by decide +kernel
theorem dX8_mainItem_87 : decode cX8_mainItem 87 = .ok (.putfield 77, 3) := by decide +kernel
theorem dX8_mainItem_90 : decode cX8_mainItem 90 = .ok (.aload_n 0, 1) := by decide +kernel
theorem dX8_mainItem_91 : decode cX8_mainItem 91 = .ok (.iconst 0, 1) := by decide +kernel
theorem dX8_mainItem_92 : decode cX8_mainItem 92 = .ok (.putfield 74, 3) := by decide +kernel
theorem dX8_mainItem_95 : decode cX8_mainItem 95 = .ok (.iload_n 1, 1) := by decide +kernel
theorem dX8_mainItem_96 : decode cX8_mainItem 96 = .ok (.ireturn, 1) := by decide +kernel
theorem dX8_go_0 : decode cX8_go 0 = .ok (.aload_n 0, 1) := by decide +kernel
theorem dX8_go_1 : decode cX8_go 1 = .ok (.iload_n 1, 1) := by decide +kernel
theorem dX8_go_2 : decode cX8_go 2 = .ok (.putfield 83, 3) := by decide +kernel
theorem dX8_go_5 : decode cX8_go 5 = .ok (.aload_n 0, 1) := by decide +kernel
theorem dX8_go_6 : decode cX8_go 6 = .ok (.iconst 0, 1) := by decide +kernel
theorem dX8_go_7 : decode cX8_go 7 = .ok (.putfield 71, 3) := by decide +kernel
theorem dX8_go_10 : decode cX8_go 10 = .ok (.aload_n 0, 1) := by decide +kernel
theorem dX8_go_11 : decode cX8_go 11 = .ok (.iconst 0, 1) := by decide +kernel
theorem dX8_go_12 : decode cX8_go 12 = .ok (.putfield 77, 3) := by decide +kernel
theorem dX8_go_15 : decode cX8_go 15 = .ok (.aload_n 0, 1) := by decide +kernel
theorem dX8_go_16 : decode cX8_go 16 = .ok (.iconst 0, 1) := by decide +kernel
theorem dX8_go_17 : decode cX8_go 17 = .ok (.putfield 74, 3) := by decide +kernel
theorem dX8_go_20 : decode cX8_go 20 = .ok (.aload_n 0, 1) := by decide +kernel
theorem dX8_go_21 : decode cX8_go 21 = .ok (.iconst 0, 1) := by decide +kernel
theorem dX8_go_22 : decode cX8_go 22 = .ok (.putfield 87, 3) := by decide +kernel
theorem dX8_go_25 : decode cX8_go 25 = .ok (.aload_n 0, 1) := by decide +kernel
theorem dX8_go_26 : decode cX8_go 26 = .ok (.iconst 0, 1) := by decide +kernel
theorem dX8_go_27 : decode cX8_go 27 = .ok (.putfield 80, 3) := by decide +kernel
theorem dX8_go_30 : decode cX8_go 30 = .ok (.aload_n 0, 1) := by decide +kernel
theorem dX8_go_31 : decode cX8_go 31 = .ok (.iconst 0, 1) := by decide +kernel
theorem dX8_go_32 : decode cX8_go 32 = .ok (.putfield 90, 3) := by decide +kernel
theorem dX8_go_35 : decode cX8_go 35 = .ok (.aload_n 0, 1) := by decide +kernel
theorem dX8_go_36 : decode cX8_go 36 = .ok (.iconst 0, 1) := by decide +kernel
theorem dX8_go_37 : decode cX8_go 37 = .ok (.putfield 93, 3) := by decide +kernel
theorem dX8_go_40 : decode cX8_go 40 = .ok (.aload_n 0, 1) := by decide +kernel
theorem dX8_go_41 : decode cX8_go 41 = .ok (.iconst 0, 1) := by decide +kernel
theorem dX8_go_42 : decode cX8_go 42 = .ok (.putfield 103, 3) := by decide +kernel
theorem dX8_go_45 : decode cX8_go 45 = .ok (.aload_n 0, 1) := by decide +kernel
theorem dX8_go_46 : decode cX8_go 46 = .ok (.iconst 0, 1) := by decide +kernel
theorem dX8_go_47 : decode cX8_go 47 = .ok (.putfield 106, 3) := by decide +kernel
theorem dX8_go_50 : decode cX8_go 50 = .ok (.iconst 0, 1) := by decide +kernel
theorem dX8_go_51 : decode cX8_go 51 = .ok (.istore_n 2, 1) := by decide +kernel
theorem dX8_go_52 : decode cX8_go 52 = .ok (.iload_n 2, 1) := by decide +kernel
theorem dX8_go_53 : decode cX8_go 53 = .ok (.bipush 48, 2) := by decide +kernel
theorem dX8_go_55 : decode cX8_go 55 = .ok (.if_icmp .ge 26, 3) := by decide +kernel
theorem dX8_go_58 : decode cX8_go 58 = .ok (.aload_n 0, 1) := by decide +kernel
theorem dX8_go_59 : decode cX8_go 59 = .ok (.getfield 32, 3) := by decide +kernel
theorem dX8_go_62 : decode cX8_go 62 = .ok (.iload_n 2, 1) := by decide +kernel
theorem dX8_go_63 : decode cX8_go 63 = .ok (.iconst 0, 1) := by decide +kernel
theorem dX8_go_64 : decode cX8_go 64 = .ok (.iastore, 1) := by decide +kernel
theorem dX8_go_65 : decode cX8_go 65 = .ok (.aload_n 0, 1) := by decide +kernel
theorem dX8_go_66 : decode cX8_go 66 = .ok (.getfield 20, 3) := by decide +kernel
theorem dX8_go_69 : decode cX8_go 69 = .ok (.iload_n 2, 1) := by decide +kernel
theorem dX8_go_70 : decode cX8_go 70 = .ok (.bipush 6, 2) := by decide +kernel
theorem dX8_go_72 : decode cX8_go 72 = .ok (.irem, 1) := by decide +kernel
theorem dX8_go_73 : decode cX8_go 73 = .ok (.iconst 0, 1) := by decide +kernel
theorem dX8_go_74 : decode cX8_go 74 = .ok (.iastore, 1) := by decide +kernel
theorem dX8_go_75 : decode cX8_go 75 = .ok (.iinc 2 1, 3) := by decide +kernel
theorem dX8_go_78 : decode cX8_go 78 = .ok (.goto (-26), 3) := by decide +kernel
theorem dX8_go_81 : decode cX8_go 81 = .ok (.iconst 0, 1) := by decide +kernel
theorem dX8_go_82 : decode cX8_go 82 = .ok (.istore_n 2, 1) := by decide +kernel
theorem dX8_go_83 : decode cX8_go 83 = .ok (.iload_n 2, 1) := by decide +kernel
theorem dX8_go_84 : decode cX8_go 84 = .ok (.aload_n 0, 1) := by decide +kernel
theorem dX8_go_85 : decode cX8_go 85 = .ok (.getfield 7, 3) := by decide +kernel
theorem dX8_go_88 : decode cX8_go 88 = .ok (.sipush 3285, 3) := by decide +kernel
theorem dX8_go_91 : decode cX8_go 91 = .ok (.iaload, 1) := by decide +kernel
theorem dX8_go_92 : decode cX8_go 92 = .ok (.if_icmp .ge 82, 3) := by decide +kernel
theorem dX8_go_95 : decode cX8_go 95 = .ok (.aload_n 0, 1) := by decide +kernel
theorem dX8_go_96 : decode cX8_go 96 = .ok (.iload_n 2, 1) := by decide +kernel
theorem dX8_go_97 : decode cX8_go 97 = .ok (.putfield 118, 3) := by decide +kernel
theorem dX8_go_100 : decode cX8_go 100 = .ok (.aload_n 0, 1) := by decide +kernel
theorem dX8_go_101 : decode cX8_go 101 = .ok (.iload_n 2, 1) := by decide +kernel
theorem dX8_go_102 : decode cX8_go 102 = .ok (.invokevirtual 121, 3) := by decide +kernel
theorem dX8_go_105 : decode cX8_go 105 = .ok (.ifCond .ne 5, 3) := by decide +kernel
theorem dX8_go_108 : decode cX8_go 108 = .ok (.iconst 1, 1) := by decide +kernel
theorem dX8_go_109 : decode cX8_go 109 = .ok (.ireturn, 1) := by decide +kernel
theorem dX8_go_110 : decode cX8_go 110 = .ok (.aload_n 0, 1) := by decide +kernel
theorem dX8_go_111 : decode cX8_go 111 = .ok (.getfield 46, 3) := by decide +kernel
theorem dX8_go_114 : decode cX8_go 114 = .ok (.ifCond .ne 10, 3) := by decide +kernel
theorem dX8_go_117 : decode cX8_go 117 = .ok (.aload_n 0, 1) := by decide +kernel
theorem dX8_go_118 : decode cX8_go 118 = .ok (.invokevirtual 125, 3) := by decide +kernel
theorem dX8_go_121 : decode cX8_go 121 = .ok (.goto 34, 3) := by decide +kernel
theorem dX8_go_124 : decode cX8_go 124 = .ok (.aload_n 0, 1) := by decide +kernel
theorem dX8_go_125 : decode cX8_go 125 = .ok (.getfield 46, 3) := by decide +kernel
theorem dX8_go_128 : decode cX8_go 128 = .ok (.iconst 1, 1) := by decide +kernel
theorem dX8_go_129 : decode cX8_go 129 = .ok (.if_icmp .ne 10, 3) := by decide +kernel
theorem dX8_go_132 : decode cX8_go 132 = .ok (.aload_n 0, 1) := by decide +kernel
theorem dX8_go_133 : decode cX8_go 133 = .ok (.invokevirtual 128, 3) := by decide +kernel
theorem dX8_go_136 : decode cX8_go 136 = .ok (.goto 19, 3) := by decide +kernel
theorem dX8_go_139 : decode cX8_go 139 = .ok (.aload_n 0, 1) := by decide +kernel
theorem dX8_go_140 : decode cX8_go 140 = .ok (.getfield 46, 3) := by decide +kernel
theorem dX8_go_143 : decode cX8_go 143 = .ok (.iconst 2, 1) := by decide +kernel
theorem dX8_go_144 : decode cX8_go 144 = .ok (.if_icmp .ne 10, 3) := by decide +kernel
theorem dX8_go_147 : decode cX8_go 147 = .ok (.aload_n 0, 1) := by decide +kernel
theorem dX8_go_148 : decode cX8_go 148 = .ok (.invokevirtual 131, 3) := by decide +kernel
theorem dX8_go_151 : decode cX8_go 151 = .ok (.goto 4, 3) := by decide +kernel
theorem dX8_go_154 : decode cX8_go 154 = .ok (.iconst 2, 1) := by decide +kernel
theorem dX8_go_155 : decode cX8_go 155 = .ok (.istore_n 3, 1) := by decide +kernel
theorem dX8_go_156 : decode cX8_go 156 = .ok (.iload_n 3, 1) := by decide +kernel
theorem dX8_go_157 : decode cX8_go 157 = .ok (.ifCond .le 5, 3) := by decide +kernel
theorem dX8_go_160 : decode cX8_go 160 = .ok (.iload_n 3, 1) := by decide +kernel
theorem dX8_go_161 : decode cX8_go 161 = .ok (.ireturn, 1) := by decide +kernel
theorem dX8_go_162 : decode cX8_go 162 = .ok (.iload_n 2, 1) := by decide +kernel
theorem dX8_go_163 : decode cX8_go 163 = .ok (.iconst 1, 1) := by decide +kernel
theorem dX8_go_164 : decode cX8_go 164 = .ok (.aload_n 0, 1) := by decide +kernel
theorem dX8_go_165 : decode cX8_go 165 = .ok (.getfield 42, 3) := by decide +kernel
theorem dX8_go_168 : decode cX8_go 168 = .ok (.iadd, 1) := by decide +kernel
theorem dX8_go_169 : decode cX8_go 169 = .ok (.iadd, 1) := by decide +kernel
theorem dX8_go_170 : decode cX8_go 170 = .ok (.istore_n 2, 1) := by decide +kernel
theorem dX8_go_171 : decode cX8_go 171 = .ok (.goto (-88), 3) := by decide +kernel
theorem dX8_go_174 : decode cX8_go 174 = .ok (.aload_n 0, 1) := by decide +kernel
theorem dX8_go_175 : decode cX8_go 175 = .ok (.iload_n 2, 1) := by decide +kernel
theorem dX8_go_176 : decode cX8_go 176 = .ok (.putfield 118, 3) := by decide +kernel
theorem dX8_go_179 : decode cX8_go 179 = .ok (.aload_n 0, 1) := by decide +kernel
theorem dX8_go_180 : decode cX8_go 180 = .ok (.getfield 87, 3) := by decide +kernel
theorem dX8_go_183 : decode cX8_go 183 = .ok (.ifCond .le 8, 3) := by decide +kernel
theorem dX8_go_186 : decode cX8_go 186 = .ok (.bipush 15, 2) := by decide +kernel
theorem dX8_go_188 : decode cX8_go 188 = .ok (.goto 23, 3) := by decide +kernel
theorem dX8_go_191 : decode cX8_go 191 = .ok (.aload_n 0, 1) := by decide +kernel
theorem dX8_go_192 : decode cX8_go 192 = .ok (.getfield 103, 3) := by decide +kernel
theorem dX8_go_195 : decode cX8_go 195 = .ok (.ifCond .eq 15, 3) := by decide +kernel
theorem dX8_go_198 : decode cX8_go 198 = .ok (.aload_n 0, 1) := by decide +kernel
theorem dX8_go_199 : decode cX8_go 199 = .ok (.getfield 106, 3) := by decide +kernel
theorem dX8_go_202 : decode cX8_go 202 = .ok (.ifCond .eq 8, 3) := by decide +kernel
theorem dX8_go_205 : decode cX8_go 205 = .ok (.bipush 16, 2) := by decide +kernel
theorem dX8_go_207 : decode cX8_go 207 = .ok (.goto 4, 3) := by decide +kernel
theorem dX8_go_210 : decode cX8_go 210 = .ok (.iconst 0, 1) := by decide +kernel
theorem dX8_go_211 : decode cX8_go 211 = .ok (.ireturn, 1) := by decide +kernel
theorem dX8_read_0 : decode cX8_read 0 = .ok (.aload_n 0, 1) := by decide +kernel
theorem dX8_read_1 : decode cX8_read 1 = .ok (.iconst 0, 1) := by decide +kernel
theorem dX8_read_2 : decode cX8_read 2 = .ok (.invokevirtual 134, 3) := by decide +kernel
theorem dX8_read_5 : decode cX8_read 5 = .ok (.istore_n 1, 1) := by decide +kernel
theorem dX8_read_6 : decode cX8_read 6 = .ok (.aload_n 0, 1) := by decide +kernel
theorem dX8_read_7 : decode cX8_read 7 = .ok (.getfield 7, 3) := by decide +kernel
theorem dX8_read_10 : decode cX8_read 10 = .ok (.sipush 3291, 3) := by decide +kernel
theorem dX8_read_13 : decode cX8_read 13 = .ok (.iload_n 1, 1) := by decide +kernel
theorem dX8_read_14 : decode cX8_read 14 = .ok (.iastore, 1) := by decide +kernel
theorem dX8_read_15 : decode cX8_read 15 = .ok (.iload_n 1, 1) := by decide +kernel
theorem dX8_read_16 : decode cX8_read 16 = .ok (.ifCond .le 6, 3) := by decide +kernel
theorem dX8_read_19 : decode cX8_read 19 = .ok (.bipush (-7), 2) := by decide +kernel
theorem dX8_read_21 : decode cX8_read 21 = .ok (.ireturn, 1) := by decide +kernel
theorem dX8_read_22 : decode cX8_read 22 = .ok (.aload_n 0, 1) := by decide +kernel
theorem dX8_read_23 : decode cX8_read 23 = .ok (.iconst 1, 1) := by decide +kernel
theorem dX8_read_24 : decode cX8_read 24 = .ok (.invokevirtual 134, 3) := by decide +kernel
theorem dX8_read_27 : decode cX8_read 27 = .ok (.pop, 1) := by decide +kernel
theorem dX8_read_28 : decode cX8_read 28 = .ok (.aload_n 0, 1) := by decide +kernel
theorem dX8_read_29 : decode cX8_read 29 = .ok (.getfield 7, 3) := by decide +kernel
theorem dX8_read_32 : decode cX8_read 32 = .ok (.sipush 3286, 3) := by decide +kernel
theorem dX8_read_35 : decode cX8_read 35 = .ok (.aload_n 0, 1) := by decide +kernel
theorem dX8_read_36 : decode cX8_read 36 = .ok (.getfield 90, 3) := by decide +kernel
theorem dX8_read_39 : decode cX8_read 39 = .ok (.iastore, 1) := by decide +kernel
theorem dX8_read_40 : decode cX8_read 40 = .ok (.aload_n 0, 1) := by decide +kernel
theorem dX8_read_41 : decode cX8_read 41 = .ok (.getfield 7, 3) := by decide +kernel
theorem dX8_read_44 : decode cX8_read 44 = .ok (.sipush 3287, 3) := by decide +kernel
theorem dX8_read_47 : decode cX8_read 47 = .ok (.aload_n 0, 1) := by decide +kernel
theorem dX8_read_48 : decode cX8_read 48 = .ok (.getfield 80, 3) := by decide +kernel
theorem dX8_read_51 : decode cX8_read 51 = .ok (.iastore, 1) := by decide +kernel
theorem dX8_read_52 : decode cX8_read 52 = .ok (.aload_n 0, 1) := by decide +kernel
theorem dX8_read_53 : decode cX8_read 53 = .ok (.getfield 7, 3) := by decide +kernel
theorem dX8_read_56 : decode cX8_read 56 = .ok (.sipush 3292, 3) := by decide +kernel
theorem dX8_read_59 : decode cX8_read 59 = .ok (.aload_n 0, 1) := by decide +kernel
theorem dX8_read_60 : decode cX8_read 60 = .ok (.getfield 106, 3) := by decide +kernel
theorem dX8_read_63 : decode cX8_read 63 = .ok (.ifCond .eq 7, 3) := by decide +kernel
theorem dX8_read_66 : decode cX8_read 66 = .ok (.iconst 1, 1) := by decide +kernel
theorem dX8_read_67 : decode cX8_read 67 = .ok (.goto 4, 3) := by decide +kernel
theorem dX8_read_70 : decode cX8_read 70 = .ok (.iconst 0, 1) := by decide +kernel
theorem dX8_read_71 : decode cX8_read 71 = .ok (.iastore, 1) := by decide +kernel
theorem dX8_read_72 : decode cX8_read 72 = .ok (.aload_n 0, 1) := by decide +kernel
theorem dX8_read_73 : decode cX8_read 73 = .ok (.getfield 7, 3) := by decide +kernel
theorem dX8_read_76 : decode cX8_read 76 = .ok (.sipush 3288, 3) := by decide +kernel
theorem dX8_read_79 : decode cX8_read 79 = .ok (.iconst 0, 1) := by decide +kernel
theorem dX8_read_80 : decode cX8_read 80 = .ok (.iastore, 1) := by decide +kernel
theorem dX8_read_81 : decode cX8_read 81 = .ok (.aload_n 0, 1) := by decide +kernel
theorem dX8_read_82 : decode cX8_read 82 = .ok (.getfield 7, 3) := by decide +kernel
theorem dX8_read_85 : decode cX8_read 85 = .ok (.sipush 3289, 3) := by decide +kernel
theorem dX8_read_88 : decode cX8_read 88 = .ok (.iconst 0, 1) := by decide +kernel
theorem dX8_read_89 : decode cX8_read 89 = .ok (.iastore, 1) := by decide +kernel
theorem dX8_read_90 : decode cX8_read 90 = .ok (.iconst 0, 1) := by decide +kernel
theorem dX8_read_91 : decode cX8_read 91 = .ok (.istore_n 2, 1) := by decide +kernel
theorem dX8_read_92 : decode cX8_read 92 = .ok (.iload_n 2, 1) := by decide +kernel
theorem dX8_read_93 : decode cX8_read 93 = .ok (.bipush 48, 2) := by decide +kernel
theorem dX8_read_95 : decode cX8_read 95 = .ok (.if_icmp .ge 25, 3) := by decide +kernel
theorem dX8_read_98 : decode cX8_read 98 = .ok (.aload_n 0, 1) := by decide +kernel
theorem dX8_read_99 : decode cX8_read 99 = .ok (.getfield 7, 3) := by decide +kernel
theorem dX8_read_102 : decode cX8_read 102 = .ok (.sipush 804, 3) := by decide +kernel
theorem dX8_read_105 : decode cX8_read 105 = .ok (.iload_n 2, 1) := by decide +kernel
theorem dX8_read_106 : decode cX8_read 106 = .ok (.iadd, 1) := by decide +kernel
theorem dX8_read_107 : decode cX8_read 107 = .ok (.aload_n 0, 1) := by decide +kernel
theorem dX8_read_108 : decode cX8_read 108 = .ok (.getfield 32, 3) := by decide +kernel
theorem dX8_read_111 : decode cX8_read 111 = .ok (.iload_n 2, 1) := by decide +kernel
theorem dX8_read_112 : decode cX8_read 112 = .ok (.iaload, 1) := by decide +kernel
theorem dX8_read_113 : decode cX8_read 113 = .ok (.iastore, 1) := by decide +kernel
theorem dX8_read_114 : decode cX8_read 114 = .ok (.iinc 2 1, 3) := by decide +kernel
theorem dX8_read_117 : decode cX8_read 117 = .ok (.goto (-25), 3) := by decide +kernel
theorem dX8_read_120 : decode cX8_read 120 = .ok (.aload_n 0, 1) := by decide +kernel
theorem dX8_read_121 : decode cX8_read 121 = .ok (.getfield 90, 3) := by decide +kernel
theorem dX8_read_124 : decode cX8_read 124 = .ok (.ireturn, 1) := by decide +kernel
theorem dX8_wholeItems_0 : decode cX8_wholeItems 0 = .ok (.iconst 0, 1) := by decide +kernel
theorem dX8_wholeItems_1 : decode cX8_wholeItems 1 = .ok (.istore_n 1, 1) := by decide +kernel
theorem dX8_wholeItems_2 : decode cX8_wholeItems 2 = .ok (.iconst 0, 1) := by decide +kernel
theorem dX8_wholeItems_3 : decode cX8_wholeItems 3 = .ok (.istore_n 2, 1) := by decide +kernel
theorem dX8_wholeItems_4 : decode cX8_wholeItems 4 = .ok (.iload_n 1, 1) := by decide +kernel
theorem dX8_wholeItems_5 : decode cX8_wholeItems 5 = .ok (.aload_n 0, 1) := by decide +kernel
theorem dX8_wholeItems_6 : decode cX8_wholeItems 6 = .ok (.getfield 7, 3) := by decide +kernel
theorem dX8_wholeItems_9 : decode cX8_wholeItems 9 = .ok (.sipush 3285, 3) := by decide +kernel
theorem dX8_wholeItems_12 : decode cX8_wholeItems 12 = .ok (.iaload, 1) := by decide +kernel
theorem dX8_wholeItems_13 : decode cX8_wholeItems 13 = .ok (.if_icmp .ge 26, 3) := by decide +kernel
theorem dX8_wholeItems_16 : decode cX8_wholeItems 16 = .ok (.aload_n 0, 1) := by decide +kernel
theorem dX8_wholeItems_17 : decode cX8_wholeItems 17 = .ok (.iload_n 1, 1) := by decide +kernel
theorem dX8_wholeItems_18 : decode cX8_wholeItems 18 = .ok (.invokevirtual 121, 3) := by decide +kernel
theorem dX8_wholeItems_21 : decode cX8_wholeItems 21 = .ok (.ifCond .eq 18, 3) := by decide +kernel
theorem dX8_wholeItems_24 : decode cX8_wholeItems 24 = .ok (.iload_n 1, 1) := by decide +kernel
theorem dX8_wholeItems_25 : decode cX8_wholeItems 25 = .ok (.iconst 1, 1) := by decide +kernel
theorem dX8_wholeItems_26 : decode cX8_wholeItems 26 = .ok (.aload_n 0, 1) := by decide +kernel
theorem dX8_wholeItems_27 : decode cX8_wholeItems 27 = .ok (.getfield 42, 3) := by decide +kernel
theorem dX8_wholeItems_30 : decode cX8_wholeItems 30 = .ok (.iadd, 1) := by decide +kernel
theorem dX8_wholeItems_31 : decode cX8_wholeItems 31 = .ok (.iadd, 1) := by decide +kernel
theorem dX8_wholeItems_32 : decode cX8_wholeItems 32 = .ok (.istore_n 1, 1) := by decide +kernel
theorem dX8_wholeItems_33 : decode cX8_wholeItems 33 = .ok (.iinc 2 1, 3) := by decide +kernel
theorem dX8_wholeItems_36 : decode cX8_wholeItems 36 = .ok (.goto (-32), 3) := by decide +kernel
theorem dX8_wholeItems_39 : decode cX8_wholeItems 39 = .ok (.iload_n 2, 1) := by decide +kernel
theorem dX8_wholeItems_40 : decode cX8_wholeItems 40 = .ok (.ireturn, 1) := by decide +kernel
theorem dX8_fault_0 : decode cX8_fault 0 = .ok (.iload_n 1, 1) := by decide +kernel
theorem dX8_fault_1 : decode cX8_fault 1 = .ok (.iconst 0, 1) := by decide +kernel
theorem dX8_fault_2 : decode cX8_fault 2 = .ok (.iconst 2, 1) := by decide +kernel
theorem dX8_fault_3 : decode cX8_fault 3 = .ok (.invokestatic 60, 3) := by decide +kernel
theorem dX8_fault_6 : decode cX8_fault 6 = .ok (.ifCond .ne 6, 3) := by decide +kernel
theorem dX8_fault_9 : decode cX8_fault 9 = .ok (.bipush (-2), 2) := by decide +kernel
theorem dX8_fault_11 : decode cX8_fault 11 = .ok (.ireturn, 1) := by decide +kernel
theorem dX8_fault_12 : decode cX8_fault 12 = .ok (.iload_n 1, 1) := by decide +kernel
theorem dX8_fault_13 : decode cX8_fault 13 = .ok (.iconst 2, 1) := by decide +kernel
theorem dX8_fault_14 : decode cX8_fault 14 = .ok (.if_icmp .ne 8, 3) := by decide +kernel
theorem dX8_fault_17 : decode cX8_fault 17 = .ok (.aload_n 0, 1) := by decide +kernel
theorem dX8_fault_18 : decode cX8_fault 18 = .ok (.invokevirtual 138, 3) := by decide +kernel
theorem dX8_fault_21 : decode cX8_fault 21 = .ok (.ireturn, 1) := by decide +kernel
theorem dX8_fault_22 : decode cX8_fault 22 = .ok (.aload_n 0, 1) := by decide +kernel
theorem dX8_fault_23 : decode cX8_fault 23 = .ok (.iconst 0, 1) := by decide +kernel
theorem dX8_fault_24 : decode cX8_fault 24 = .ok (.invokevirtual 134, 3) := by decide +kernel
theorem dX8_fault_27 : decode cX8_fault 27 = .ok (.istore_n 2, 1) := by decide +kernel
theorem dX8_fault_28 : decode cX8_fault 28 = .ok (.iload_n 1, 1) := by decide +kernel
theorem dX8_fault_29 : decode cX8_fault 29 = .ok (.ifCond .ne 7, 3) := by decide +kernel
theorem dX8_fault_32 : decode cX8_fault 32 = .ok (.iload_n 2, 1) := by decide +kernel
theorem dX8_fault_33 : decode cX8_fault 33 = .ok (.goto 16, 3) := by decide +kernel
theorem dX8_fault_36 : decode cX8_fault 36 = .ok (.iload_n 2, 1) := by decide +kernel
theorem dX8_fault_37 : decode cX8_fault 37 = .ok (.ifCond .ne 8, 3) := by decide +kernel
theorem dX8_fault_40 : decode cX8_fault 40 = .ok (.bipush (-6), 2) := by decide +kernel
theorem dX8_fault_42 : decode cX8_fault 42 = .ok (.goto 7, 3) := by decide +kernel
theorem dX8_fault_45 : decode cX8_fault 45 = .ok (.aload_n 0, 1) := by decide +kernel
theorem dX8_fault_46 : decode cX8_fault 46 = .ok (.getfield 118, 3) := by decide +kernel
theorem dX8_fault_49 : decode cX8_fault 49 = .ok (.ireturn, 1) := by decide +kernel
theorem dX8_write_0 : decode cX8_write 0 = .ok (.iconst 0, 1) := by decide +kernel
theorem dX8_write_1 : decode cX8_write 1 = .ok (.istore 6, 2) := by decide +kernel
theorem dX8_write_3 : decode cX8_write 3 = .ok (.iload 6, 2) := by decide +kernel
theorem dX8_write_5 : decode cX8_write 5 = .ok (.iconst 5, 1) := by decide +kernel
theorem dX8_write_6 : decode cX8_write 6 = .ok (.if_icmp .ge 79, 3) := by decide +kernel
theorem dX8_write_9 : decode cX8_write 9 = .ok (.iload 6, 2) := by decide +kernel
theorem dX8_write_11 : decode cX8_write 11 = .ok (.ifCond .ne 7, 3) := by decide +kernel
theorem dX8_write_14 : decode cX8_write 14 = .ok (.iload_n 1, 1) := by decide +kernel
theorem dX8_write_15 : decode cX8_write 15 = .ok (.goto 36, 3) := by decide +kernel
theorem dX8_write_18 : decode cX8_write 18 = .ok (.iload 6, 2) := by decide +kernel
theorem dX8_write_20 : decode cX8_write 20 = .ok (.iconst 1, 1) := by decide +kernel
theorem dX8_write_21 : decode cX8_write 21 = .ok (.if_icmp .ne 7, 3) := by decide +kernel
theorem dX8_write_24 : decode cX8_write 24 = .ok (.iload_n 2, 1) := by decide +kernel
theorem dX8_write_25 : decode cX8_write 25 = .ok (.goto 26, 3) := by decide +kernel
theorem dX8_write_28 : decode cX8_write 28 = .ok (.iload 6, 2) := by decide +kernel
theorem dX8_write_30 : decode cX8_write 30 = .ok (.iconst 2, 1) := by decide +kernel
theorem dX8_write_31 : decode cX8_write 31 = .ok (.if_icmp .ne 7, 3) := by decide +kernel
theorem dX8_write_34 : decode cX8_write 34 = .ok (.iload_n 3, 1) := by decide +kernel
theorem dX8_write_35 : decode cX8_write 35 = .ok (.goto 16, 3) := by decide +kernel
theorem dX8_write_38 : decode cX8_write 38 = .ok (.iload 6, 2) := by decide +kernel
theorem dX8_write_40 : decode cX8_write 40 = .ok (.iconst 3, 1) := by decide +kernel
theorem dX8_write_41 : decode cX8_write 41 = .ok (.if_icmp .ne 8, 3) := by decide +kernel
theorem dX8_write_44 : decode cX8_write 44 = .ok (.iload 4, 2) := by decide +kernel
theorem dX8_write_46 : decode cX8_write 46 = .ok (.goto 5, 3) := by decide +kernel
theorem dX8_write_49 : decode cX8_write 49 = .ok (.iload 5, 2) := by decide +kernel
theorem dX8_write_51 : decode cX8_write 51 = .ok (.istore 7, 2) := by decide +kernel
theorem dX8_write_53 : decode cX8_write 53 = .ok (.iload 7, 2) := by decide +kernel
theorem dX8_write_55 : decode cX8_write 55 = .ok (.ifCond .le 24, 3) := by decide +kernel
theorem dX8_write_58 : decode cX8_write 58 = .ok (.aload_n 0, 1) := by decide +kernel
theorem dX8_write_59 : decode cX8_write 59 = .ok (.getfield 35, 3) := by decide +kernel
theorem dX8_write_62 : decode cX8_write 62 = .ok (.aload_n 0, 1) := by decide +kernel
theorem dX8_write_63 : decode cX8_write 63 = .ok (.getfield 141, 3) := by decide +kernel
theorem dX8_write_66 : decode cX8_write 66 = .ok (.iload 7, 2) := by decide +kernel
theorem dX8_write_68 : decode cX8_write 68 = .ok (.iastore, 1) := by decide +kernel
theorem dX8_write_69 : decode cX8_write 69 = .ok (.aload_n 0, 1) := by decide +kernel
theorem dX8_write_70 : decode cX8_write 70 = .ok (.dup, 1) := by decide +kernel
theorem dX8_write_71 : decode cX8_write 71 = .ok (.getfield 141, 3) := by decide +kernel
theorem dX8_write_74 : decode cX8_write 74 = .ok (.iconst 1, 1) := by decide +kernel
theorem dX8_write_75 : decode cX8_write 75 = .ok (.iadd, 1) := by decide +kernel
theorem dX8_write_76 : decode cX8_write 76 = .ok (.putfield 141, 3) := by decide +kernel
theorem dX8_write_79 : decode cX8_write 79 = .ok (.iinc 6 1, 3) := by decide +kernel
theorem dX8_write_82 : decode cX8_write 82 = .ok (.goto (-79), 3) := by decide +kernel
theorem dX8_write_85 : decode cX8_write 85 = .ok (.return_, 1) := by decide +kernel
theorem dX8_writeMain_0 : decode cX8_writeMain 0 = .ok (.aload_n 0, 1) := by decide +kernel
theorem dX8_writeMain_1 : decode cX8_writeMain 1 = .ok (.getfield 49, 3) := by decide +kernel
theorem dX8_writeMain_4 : decode cX8_writeMain 4 = .ok (.tableswitch 113 8 12 #[36, 50, 81, 65, 98], 36) := by decide +kernel
theorem dX8_writeMain_40 : decode cX8_writeMain 40 = .ok (.aload_n 0, 1) := by decide +kernel
theorem dX8_writeMain_41 : decode cX8_writeMain 41 = .ok (.bipush 105, 2) := by decide +kernel
theorem dX8_writeMain_43 : decode cX8_writeMain 43 = .ok (.bipush 110, 2) := by decide +kernel
theorem dX8_writeMain_45 : decode cX8_writeMain 45 = .ok (.iconst 0, 1) := by decide +kernel
theorem dX8_writeMain_46 : decode cX8_writeMain 46 = .ok (.iconst 0, 1) := by decide +kernel
theorem dX8_writeMain_47 : decode cX8_writeMain 47 = .ok (.iconst 0, 1) := by decide +kernel
theorem dX8_writeMain_48 : decode cX8_writeMain 48 = .ok (.invokevirtual 144, 3) := by decide +kernel
theorem dX8_writeMain_51 : decode cX8_writeMain 51 = .ok (.goto 79, 3) := by decide +kernel
theorem dX8_writeMain_54 : decode cX8_writeMain 54 = .ok (.aload_n 0, 1) := by decide +kernel
theorem dX8_writeMain_55 : decode cX8_writeMain 55 = .ok (.bipush 111, 2) := by decide +kernel
theorem dX8_writeMain_57 : decode cX8_writeMain 57 = .ok (.bipush 117, 2) := by decide +kernel
theorem dX8_writeMain_59 : decode cX8_writeMain 59 = .ok (.bipush 116, 2) := by decide +kernel
theorem dX8_writeMain_61 : decode cX8_writeMain 61 = .ok (.iconst 0, 1) := by decide +kernel
theorem dX8_writeMain_62 : decode cX8_writeMain 62 = .ok (.iconst 0, 1) := by decide +kernel
theorem dX8_writeMain_63 : decode cX8_writeMain 63 = .ok (.invokevirtual 144, 3) := by decide +kernel
theorem dX8_writeMain_66 : decode cX8_writeMain 66 = .ok (.goto 64, 3) := by decide +kernel
theorem dX8_writeMain_69 : decode cX8_writeMain 69 = .ok (.aload_n 0, 1) := by decide +kernel
theorem dX8_writeMain_70 : decode cX8_writeMain 70 = .ok (.bipush 98, 2) := by decide +kernel
theorem dX8_writeMain_72 : decode cX8_writeMain 72 = .ok (.bipush 111, 2) := by decide +kernel
theorem dX8_writeMain_74 : decode cX8_writeMain 74 = .ok (.bipush 116, 2) := by decide +kernel
theorem dX8_writeMain_76 : decode cX8_writeMain 76 = .ok (.bipush 104, 2) := by decide +kernel
theorem dX8_writeMain_78 : decode cX8_writeMain 78 = .ok (.iconst 0, 1) := by decide +kernel
theorem dX8_writeMain_79 : decode cX8_writeMain 79 = .ok (.invokevirtual 144, 3) := by decide +kernel
theorem dX8_writeMain_82 : decode cX8_writeMain 82 = .ok (.goto 48, 3) := by decide +kernel
theorem dX8_writeMain_85 : decode cX8_writeMain 85 = .ok (.aload_n 0, 1) := by decide +kernel
theorem dX8_writeMain_86 : decode cX8_writeMain 86 = .ok (.bipush 103, 2) := by decide +kernel
theorem dX8_writeMain_88 : decode cX8_writeMain 88 = .ok (.bipush 114, 2) := by decide +kernel
theorem dX8_writeMain_90 : decode cX8_writeMain 90 = .ok (.bipush 111, 2) := by decide +kernel
theorem dX8_writeMain_92 : decode cX8_writeMain 92 = .ok (.bipush 117, 2) := by decide +kernel
theorem dX8_writeMain_94 : decode cX8_writeMain 94 = .ok (.bipush 112, 2) := by decide +kernel
theorem dX8_writeMain_96 : decode cX8_writeMain 96 = .ok (.invokevirtual 144, 3) := by decide +kernel
theorem dX8_writeMain_99 : decode cX8_writeMain 99 = .ok (.goto 31, 3) := by decide +kernel
theorem dX8_writeMain_102 : decode cX8_writeMain 102 = .ok (.aload_n 0, 1) := by decide +kernel
theorem dX8_writeMain_103 : decode cX8_writeMain 103 = .ok (.bipush 101, 2) := by decide +kernel
theorem dX8_writeMain_105 : decode cX8_writeMain 105 = .ok (.bipush 110, 2) := by decide +kernel
theorem dX8_writeMain_107 : decode cX8_writeMain 107 = .ok (.bipush 100, 2) := by decide +kernel
theorem dX8_writeMain_109 : decode cX8_writeMain 109 = .ok (.iconst 0, 1) := by decide +kernel
theorem dX8_writeMain_110 : decode cX8_writeMain 110 = .ok (.iconst 0, 1) := by decide +kernel
theorem dX8_writeMain_111 : decode cX8_writeMain 111 = .ok (.invokevirtual 144, 3) := by decide +kernel
theorem dX8_writeMain_114 : decode cX8_writeMain 114 = .ok (.goto 16, 3) := by decide +kernel
theorem dX8_writeMain_117 : decode cX8_writeMain 117 = .ok (.aload_n 0, 1) := by decide +kernel
theorem dX8_writeMain_118 : decode cX8_writeMain 118 = .ok (.bipush 119, 2) := by decide +kernel
theorem dX8_writeMain_120 : decode cX8_writeMain 120 = .ok (.bipush 104, 2) := by decide +kernel
theorem dX8_writeMain_122 : decode cX8_writeMain 122 = .ok (.bipush 97, 2) := by decide +kernel
theorem dX8_writeMain_124 : decode cX8_writeMain 124 = .ok (.bipush 116, 2) := by decide +kernel
theorem dX8_writeMain_126 : decode cX8_writeMain 126 = .ok (.iconst 0, 1) := by decide +kernel
theorem dX8_writeMain_127 : decode cX8_writeMain 127 = .ok (.invokevirtual 144, 3) := by decide +kernel
theorem dX8_writeMain_130 : decode cX8_writeMain 130 = .ok (.return_, 1) := by decide +kernel
theorem dX8_writeSet_0 : decode cX8_writeSet 0 = .ok (.aload_n 0, 1) := by decide +kernel
theorem dX8_writeSet_1 : decode cX8_writeSet 1 = .ok (.getfield 49, 3) := by decide +kernel
theorem dX8_writeSet_4 : decode cX8_writeSet 4 = .ok (.tableswitch 190 0 11 #[64, 80, 97, 190, 190, 190, 190, 113, 129, 143, 159, 175], 64) := by decide +kernel
theorem dX8_writeSet_68 : decode cX8_writeSet 68 = .ok (.aload_n 0, 1) := by decide +kernel
theorem dX8_writeSet_69 : decode cX8_writeSet 69 = .ok (.bipush 112, 2) := by decide +kernel
theorem dX8_writeSet_71 : decode cX8_writeSet 71 = .ok (.bipush 97, 2) := by decide +kernel
theorem dX8_writeSet_73 : decode cX8_writeSet 73 = .ok (.bipush 103, 2) := by decide +kernel
theorem dX8_writeSet_75 : decode cX8_writeSet 75 = .ok (.bipush 101, 2) := by decide +kernel
theorem dX8_writeSet_77 : decode cX8_writeSet 77 = .ok (.iconst 0, 1) := by decide +kernel
theorem dX8_writeSet_78 : decode cX8_writeSet 78 = .ok (.invokevirtual 144, 3) := by decide +kernel
theorem dX8_writeSet_81 : decode cX8_writeSet 81 = .ok (.goto 126, 3) := by decide +kernel
theorem dX8_writeSet_84 : decode cX8_writeSet 84 = .ok (.aload_n 0, 1) := by decide +kernel
theorem dX8_writeSet_85 : decode cX8_writeSet 85 = .ok (.bipush 108, 2) := by decide +kernel
theorem dX8_writeSet_87 : decode cX8_writeSet 87 = .ok (.bipush 101, 2) := by decide +kernel
theorem dX8_writeSet_89 : decode cX8_writeSet 89 = .ok (.bipush 97, 2) := by decide +kernel
theorem dX8_writeSet_91 : decode cX8_writeSet 91 = .ok (.bipush 115, 2) := by decide +kernel
theorem dX8_writeSet_93 : decode cX8_writeSet 93 = .ok (.bipush 116, 2) := by decide +kernel
theorem dX8_writeSet_95 : decode cX8_writeSet 95 = .ok (.invokevirtual 144, 3) := by decide +kernel
theorem dX8_writeSet_98 : decode cX8_writeSet 98 = .ok (.goto 109, 3) := by decide +kernel
theorem dX8_writeSet_101 : decode cX8_writeSet 101 = .ok (.aload_n 0, 1) := by decide +kernel
theorem dX8_writeSet_102 : decode cX8_writeSet 102 = .ok (.bipush 109, 2) := by decide +kernel
theorem dX8_writeSet_104 : decode cX8_writeSet 104 = .ok (.bipush 111, 2) := by decide +kernel
theorem dX8_writeSet_106 : decode cX8_writeSet 106 = .ok (.bipush 115, 2) := by decide +kernel
theorem dX8_writeSet_108 : decode cX8_writeSet 108 = .ok (.bipush 116, 2) := by decide +kernel
theorem dX8_writeSet_110 : decode cX8_writeSet 110 = .ok (.iconst 0, 1) := by decide +kernel
theorem dX8_writeSet_111 : decode cX8_writeSet 111 = .ok (.invokevirtual 144, 3) := by decide +kernel
theorem dX8_writeSet_114 : decode cX8_writeSet 114 = .ok (.goto 93, 3) := by decide +kernel
theorem dX8_writeSet_117 : decode cX8_writeSet 117 = .ok (.aload_n 0, 1) := by decide +kernel
theorem dX8_writeSet_118 : decode cX8_writeSet 118 = .ok (.bipush 115, 2) := by decide +kernel
theorem dX8_writeSet_120 : decode cX8_writeSet 120 = .ok (.bipush 105, 2) := by decide +kernel
theorem dX8_writeSet_122 : decode cX8_writeSet 122 = .ok (.bipush 122, 2) := by decide +kernel
theorem dX8_writeSet_124 : decode cX8_writeSet 124 = .ok (.bipush 101, 2) := by decide +kernel
theorem dX8_writeSet_126 : decode cX8_writeSet 126 = .ok (.iconst 0, 1) := by decide +kernel
theorem dX8_writeSet_127 : decode cX8_writeSet 127 = .ok (.invokevirtual 144, 3) := by decide +kernel
theorem dX8_writeSet_130 : decode cX8_writeSet 130 = .ok (.goto 77, 3) := by decide +kernel
theorem dX8_writeSet_133 : decode cX8_writeSet 133 = .ok (.aload_n 0, 1) := by decide +kernel
theorem dX8_writeSet_134 : decode cX8_writeSet 134 = .ok (.bipush 105, 2) := by decide +kernel
theorem dX8_writeSet_136 : decode cX8_writeSet 136 = .ok (.bipush 100, 2) := by decide +kernel
theorem dX8_writeSet_138 : decode cX8_writeSet 138 = .ok (.iconst 0, 1) := by decide +kernel
theorem dX8_writeSet_139 : decode cX8_writeSet 139 = .ok (.iconst 0, 1) := by decide +kernel
theorem dX8_writeSet_140 : decode cX8_writeSet 140 = .ok (.iconst 0, 1) := by decide +kernel
theorem dX8_writeSet_141 : decode cX8_writeSet 141 = .ok (.invokevirtual 144, 3) := by decide +kernel
theorem dX8_writeSet_144 : decode cX8_writeSet 144 = .ok (.goto 63, 3) := by decide +kernel
theorem dX8_writeSet_147 : decode cX8_writeSet 147 = .ok (.aload_n 0, 1) := by decide +kernel
theorem dX8_writeSet_148 : decode cX8_writeSet 148 = .ok (.bipush 109, 2) := by decide +kernel
theorem dX8_writeSet_150 : decode cX8_writeSet 150 = .ok (.bipush 97, 2) := by decide +kernel
theorem dX8_writeSet_152 : decode cX8_writeSet 152 = .ok (.bipush 110, 2) := by decide +kernel
theorem dX8_writeSet_154 : decode cX8_writeSet 154 = .ok (.bipush 121, 2) := by decide +kernel
theorem dX8_writeSet_156 : decode cX8_writeSet 156 = .ok (.iconst 0, 1) := by decide +kernel
theorem dX8_writeSet_157 : decode cX8_writeSet 157 = .ok (.invokevirtual 144, 3) := by decide +kernel
theorem dX8_writeSet_160 : decode cX8_writeSet 160 = .ok (.goto 47, 3) := by decide +kernel
theorem dX8_writeSet_163 : decode cX8_writeSet 163 = .ok (.aload_n 0, 1) := by decide +kernel
theorem dX8_writeSet_164 : decode cX8_writeSet 164 = .ok (.bipush 112, 2) := by decide +kernel
theorem dX8_writeSet_166 : decode cX8_writeSet 166 = .ok (.bipush 117, 2) := by decide +kernel
theorem dX8_writeSet_168 : decode cX8_writeSet 168 = .ok (.bipush 115, 2) := by decide +kernel
theorem dX8_writeSet_170 : decode cX8_writeSet 170 = .ok (.bipush 104, 2) := by decide +kernel
theorem dX8_writeSet_172 : decode cX8_writeSet 172 = .ok (.iconst 0, 1) := by decide +kernel
theorem dX8_writeSet_173 : decode cX8_writeSet 173 = .ok (.invokevirtual 144, 3) := by decide +kernel
theorem dX8_writeSet_176 : decode cX8_writeSet 176 = .ok (.goto 31, 3) := by decide +kernel
theorem dX8_writeSet_179 : decode cX8_writeSet 179 = .ok (.aload_n 0, 1) := by decide +kernel
theorem dX8_writeSet_180 : decode cX8_writeSet 180 = .ok (.bipush 112, 2) := by decide +kernel
theorem dX8_writeSet_182 : decode cX8_writeSet 182 = .ok (.bipush 111, 2) := by decide +kernel
theorem dX8_writeSet_184 : decode cX8_writeSet 184 = .ok (.bipush 112, 2) := by decide +kernel
theorem dX8_writeSet_186 : decode cX8_writeSet 186 = .ok (.iconst 0, 1) := by decide +kernel
theorem dX8_writeSet_187 : decode cX8_writeSet 187 = .ok (.iconst 0, 1) := by decide +kernel
theorem dX8_writeSet_188 : decode cX8_writeSet 188 = .ok (.invokevirtual 144, 3) := by decide +kernel
theorem dX8_writeSet_191 : decode cX8_writeSet 191 = .ok (.goto 16, 3) := by decide +kernel
theorem dX8_writeSet_194 : decode cX8_writeSet 194 = .ok (.aload_n 0, 1) := by decide +kernel
theorem dX8_writeSet_195 : decode cX8_writeSet 195 = .ok (.bipush 119, 2) := by decide +kernel
theorem dX8_writeSet_197 : decode cX8_writeSet 197 = .ok (.bipush 104, 2) := by decide +kernel
theorem dX8_writeSet_199 : decode cX8_writeSet 199 = .ok (.bipush 97, 2) := by decide +kernel
theorem dX8_writeSet_201 : decode cX8_writeSet 201 = .ok (.bipush 116, 2) := by decide +kernel
theorem dX8_writeSet_203 : decode cX8_writeSet 203 = .ok (.iconst 0, 1) := by decide +kernel
theorem dX8_writeSet_204 : decode cX8_writeSet 204 = .ok (.invokevirtual 144, 3) := by decide +kernel
theorem dX8_writeSet_207 : decode cX8_writeSet 207 = .ok (.return_, 1) := by decide +kernel
theorem dX8_writeUse_0 : decode cX8_writeUse 0 = .ok (.aload_n 0, 1) := by decide +kernel
theorem dX8_writeUse_1 : decode cX8_writeUse 1 = .ok (.getfield 49, 3) := by decide +kernel
theorem dX8_writeUse_4 : decode cX8_writeUse 4 = .ok (.tableswitch 76 0 2 #[28, 43, 60], 28) := by decide +kernel
theorem dX8_writeUse_32 : decode cX8_writeUse 32 = .ok (.aload_n 0, 1) := by decide +kernel
theorem dX8_writeUse_33 : decode cX8_writeUse 33 = .ok (.bipush 117, 2) := by decide +kernel
theorem dX8_writeUse_35 : decode cX8_writeUse 35 = .ok (.bipush 115, 2) := by decide +kernel
theorem dX8_writeUse_37 : decode cX8_writeUse 37 = .ok (.bipush 101, 2) := by decide +kernel
theorem dX8_writeUse_39 : decode cX8_writeUse 39 = .ok (.iconst 0, 1) := by decide +kernel
theorem dX8_writeUse_40 : decode cX8_writeUse 40 = .ok (.iconst 0, 1) := by decide +kernel
theorem dX8_writeUse_41 : decode cX8_writeUse 41 = .ok (.invokevirtual 144, 3) := by decide +kernel
theorem dX8_writeUse_44 : decode cX8_writeUse 44 = .ok (.goto 49, 3) := by decide +kernel
theorem dX8_writeUse_47 : decode cX8_writeUse 47 = .ok (.aload_n 0, 1) := by decide +kernel
theorem dX8_writeUse_48 : decode cX8_writeUse 48 = .ok (.bipush 102, 2) := by decide +kernel
theorem dX8_writeUse_50 : decode cX8_writeUse 50 = .ok (.bipush 105, 2) := by decide +kernel
theorem dX8_writeUse_52 : decode cX8_writeUse 52 = .ok (.bipush 114, 2) := by decide +kernel
theorem dX8_writeUse_54 : decode cX8_writeUse 54 = .ok (.bipush 115, 2) := by decide +kernel
theorem dX8_writeUse_56 : decode cX8_writeUse 56 = .ok (.bipush 116, 2) := by decide +kernel
theorem dX8_writeUse_58 : decode cX8_writeUse 58 = .ok (.invokevirtual 144, 3) := by decide +kernel
theorem dX8_writeUse_61 : decode cX8_writeUse 61 = .ok (.goto 32, 3) := by decide +kernel
theorem dX8_writeUse_64 : decode cX8_writeUse 64 = .ok (.aload_n 0, 1) := by decide +kernel
theorem dX8_writeUse_65 : decode cX8_writeUse 65 = .ok (.bipush 117, 2) := by decide +kernel
theorem dX8_writeUse_67 : decode cX8_writeUse 67 = .ok (.bipush 112, 2) := by decide +kernel
theorem dX8_writeUse_69 : decode cX8_writeUse 69 = .ok (.bipush 116, 2) := by decide +kernel
theorem dX8_writeUse_71 : decode cX8_writeUse 71 = .ok (.bipush 111, 2) := by decide +kernel
theorem dX8_writeUse_73 : decode cX8_writeUse 73 = .ok (.iconst 0, 1) := by decide +kernel
theorem dX8_writeUse_74 : decode cX8_writeUse 74 = .ok (.invokevirtual 144, 3) := by decide +kernel
theorem dX8_writeUse_77 : decode cX8_writeUse 77 = .ok (.goto 16, 3) := by decide +kernel
theorem dX8_writeUse_80 : decode cX8_writeUse 80 = .ok (.aload_n 0, 1) := by decide +kernel
theorem dX8_writeUse_81 : decode cX8_writeUse 81 = .ok (.bipush 119, 2) := by decide +kernel
theorem dX8_writeUse_83 : decode cX8_writeUse 83 = .ok (.bipush 104, 2) := by decide +kernel
theorem dX8_writeUse_85 : decode cX8_writeUse 85 = .ok (.bipush 97, 2) := by decide +kernel
theorem dX8_writeUse_87 : decode cX8_writeUse 87 = .ok (.bipush 116, 2) := by decide +kernel
theorem dX8_writeUse_89 : decode cX8_writeUse 89 = .ok (.iconst 0, 1) := by decide +kernel
theorem dX8_writeUse_90 : decode cX8_writeUse 90 = .ok (.invokevirtual 144, 3) := by decide +kernel
theorem dX8_writeUse_93 : decode cX8_writeUse 93 = .ok (.return_, 1) := by decide +kernel
theorem dX8_writeNumber_0 : decode cX8_writeNumber 0 = .ok (.aload_n 0, 1) := by decide +kernel
theorem dX8_writeNumber_1 : decode cX8_writeNumber 1 = .ok (.bipush 32, 2) := by decide +kernel
theorem dX8_writeNumber_3 : decode cX8_writeNumber 3 = .ok (.lload_n 1, 1) := by decide +kernel
theorem dX8_writeNumber_4 : decode cX8_writeNumber 4 = .ok (.lconst 0, 1) := by decide +kernel
theorem dX8_writeNumber_5 : decode cX8_writeNumber 5 = .ok (.lcmp, 1) := by decide +kernel
theorem dX8_writeNumber_6 : decode cX8_writeNumber 6 = .ok (.ifCond .ge 8, 3) := by decide +kernel
theorem dX8_writeNumber_9 : decode cX8_writeNumber 9 = .ok (.bipush 45, 2) := by decide +kernel
theorem dX8_writeNumber_11 : decode cX8_writeNumber 11 = .ok (.goto 4, 3) := by decide +kernel
theorem dX8_writeNumber_14 : decode cX8_writeNumber 14 = .ok (.iconst 0, 1) := by decide +kernel
theorem dX8_writeNumber_15 : decode cX8_writeNumber 15 = .ok (.iconst 0, 1) := by decide +kernel
theorem dX8_writeNumber_16 : decode cX8_writeNumber 16 = .ok (.iconst 0, 1) := by decide +kernel
theorem dX8_writeNumber_17 : decode cX8_writeNumber 17 = .ok (.iconst 0, 1) := by decide +kernel
theorem dX8_writeNumber_18 : decode cX8_writeNumber 18 = .ok (.invokevirtual 144, 3) := by decide +kernel
