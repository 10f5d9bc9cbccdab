theorem dX8_writeNumber_21 : decode cX8_writeNumber 21 = .ok (.lload_n 1, 1) := by decide +kernel
theorem dX8_writeNumber_22 : decode cX8_writeNumber 22 = .ok (.lconst 0, 1) := by decide +kernel
theorem dX8_writeNumber_23 : decode cX8_writeNumber 23 = .ok (.lcmp, 1) := by decide +kernel
theorem dX8_writeNumber_24 : decode cX8_writeNumber 24 = .ok (.ifCond .ge 8, 3) := by decide +kernel
theorem dX8_writeNumber_27 : decode cX8_writeNumber 27 = .ok (.lload_n 1, 1) := by decide +kernel
theorem dX8_writeNumber_28 : decode cX8_writeNumber 28 = .ok (.lneg, 1) := by decide +kernel
theorem dX8_writeNumber_29 : decode cX8_writeNumber 29 = .ok (.goto 4, 3) := by decide +kernel
theorem dX8_writeNumber_32 : decode cX8_writeNumber 32 = .ok (.lload_n 1, 1) := by decide +kernel
theorem dX8_writeNumber_33 : decode cX8_writeNumber 33 = .ok (.lstore_n 3, 1) := by decide +kernel
theorem dX8_writeNumber_34 : decode cX8_writeNumber 34 = .ok (.lconst 1, 1) := by decide +kernel
theorem dX8_writeNumber_35 : decode cX8_writeNumber 35 = .ok (.lstore 5, 2) := by decide +kernel
theorem dX8_writeNumber_37 : decode cX8_writeNumber 37 = .ok (.lload_n 3, 1) := by decide +kernel
theorem dX8_writeNumber_38 : decode cX8_writeNumber 38 = .ok (.lload 5, 2) := by decide +kernel
theorem dX8_writeNumber_40 : decode cX8_writeNumber 40 = .ok (.ldiv, 1) := by decide +kernel
theorem dX8_writeNumber_41 : decode cX8_writeNumber 41 = .ok (.ldc2_w 148, 3) := by decide +kernel
theorem dX8_writeNumber_44 : decode cX8_writeNumber 44 = .ok (.lcmp, 1) := by decide +kernel
theorem dX8_writeNumber_45 : decode cX8_writeNumber 45 = .ok (.ifCond .le 14, 3) := by decide +kernel
theorem dX8_writeNumber_48 : decode cX8_writeNumber 48 = .ok (.lload 5, 2) := by decide +kernel
theorem dX8_writeNumber_50 : decode cX8_writeNumber 50 = .ok (.ldc2_w 150, 3) := by decide +kernel
theorem dX8_writeNumber_53 : decode cX8_writeNumber 53 = .ok (.lmul, 1) := by decide +kernel
theorem dX8_writeNumber_54 : decode cX8_writeNumber 54 = .ok (.lstore 5, 2) := by decide +kernel
theorem dX8_writeNumber_56 : decode cX8_writeNumber 56 = .ok (.goto (-19), 3) := by decide +kernel
theorem dX8_writeNumber_59 : decode cX8_writeNumber 59 = .ok (.lload 5, 2) := by decide +kernel
theorem dX8_writeNumber_61 : decode cX8_writeNumber 61 = .ok (.lconst 0, 1) := by decide +kernel
theorem dX8_writeNumber_62 : decode cX8_writeNumber 62 = .ok (.lcmp, 1) := by decide +kernel
theorem dX8_writeNumber_63 : decode cX8_writeNumber 63 = .ok (.ifCond .le 35, 3) := by decide +kernel
theorem dX8_writeNumber_66 : decode cX8_writeNumber 66 = .ok (.aload_n 0, 1) := by decide +kernel
theorem dX8_writeNumber_67 : decode cX8_writeNumber 67 = .ok (.ldc2_w 152, 3) := by decide +kernel
theorem dX8_writeNumber_70 : decode cX8_writeNumber 70 = .ok (.lload_n 3, 1) := by decide +kernel
theorem dX8_writeNumber_71 : decode cX8_writeNumber 71 = .ok (.lload 5, 2) := by decide +kernel
theorem dX8_writeNumber_73 : decode cX8_writeNumber 73 = .ok (.ldiv, 1) := by decide +kernel
theorem dX8_writeNumber_74 : decode cX8_writeNumber 74 = .ok (.ldc2_w 150, 3) := by decide +kernel
theorem dX8_writeNumber_77 : decode cX8_writeNumber 77 = .ok (.lrem, 1) := by decide +kernel
theorem dX8_writeNumber_78 : decode cX8_writeNumber 78 = .ok (.ladd, 1) := by decide +kernel
theorem dX8_writeNumber_79 : decode cX8_writeNumber 79 = .ok (.l2i, 1) := by decide +kernel
theorem dX8_writeNumber_80 : decode cX8_writeNumber 80 = .ok (.iconst 0, 1) := by decide +kernel
theorem dX8_writeNumber_81 : decode cX8_writeNumber 81 = .ok (.iconst 0, 1) := by decide +kernel
theorem dX8_writeNumber_82 : decode cX8_writeNumber 82 = .ok (.iconst 0, 1) := by decide +kernel
theorem dX8_writeNumber_83 : decode cX8_writeNumber 83 = .ok (.iconst 0, 1) := by decide +kernel
theorem dX8_writeNumber_84 : decode cX8_writeNumber 84 = .ok (.invokevirtual 144, 3) := by decide +kernel
theorem dX8_writeNumber_87 : decode cX8_writeNumber 87 = .ok (.lload 5, 2) := by decide +kernel
theorem dX8_writeNumber_89 : decode cX8_writeNumber 89 = .ok (.ldc2_w 150, 3) := by decide +kernel
theorem dX8_writeNumber_92 : decode cX8_writeNumber 92 = .ok (.ldiv, 1) := by decide +kernel
theorem dX8_writeNumber_93 : decode cX8_writeNumber 93 = .ok (.lstore 5, 2) := by decide +kernel
theorem dX8_writeNumber_95 : decode cX8_writeNumber 95 = .ok (.goto (-36), 3) := by decide +kernel
theorem dX8_writeNumber_98 : decode cX8_writeNumber 98 = .ok (.return_, 1) := by decide +kernel
theorem dX8_writeItem_0 : decode cX8_writeItem 0 = .ok (.aload_n 0, 1) := by decide +kernel
theorem dX8_writeItem_1 : decode cX8_writeItem 1 = .ok (.iconst 0, 1) := by decide +kernel
theorem dX8_writeItem_2 : decode cX8_writeItem 2 = .ok (.putfield 141, 3) := by decide +kernel
theorem dX8_writeItem_5 : decode cX8_writeItem 5 = .ok (.aload_n 0, 1) := by decide +kernel
theorem dX8_writeItem_6 : decode cX8_writeItem 6 = .ok (.getfield 46, 3) := by decide +kernel
theorem dX8_writeItem_9 : decode cX8_writeItem 9 = .ok (.ifCond .ne 10, 3) := by decide +kernel
theorem dX8_writeItem_12 : decode cX8_writeItem 12 = .ok (.aload_n 0, 1) := by decide +kernel
theorem dX8_writeItem_13 : decode cX8_writeItem 13 = .ok (.invokevirtual 154, 3) := by decide +kernel
theorem dX8_writeItem_16 : decode cX8_writeItem 16 = .ok (.goto 46, 3) := by decide +kernel
theorem dX8_writeItem_19 : decode cX8_writeItem 19 = .ok (.aload_n 0, 1) := by decide +kernel
theorem dX8_writeItem_20 : decode cX8_writeItem 20 = .ok (.getfield 46, 3) := by decide +kernel
theorem dX8_writeItem_23 : decode cX8_writeItem 23 = .ok (.iconst 1, 1) := by decide +kernel
theorem dX8_writeItem_24 : decode cX8_writeItem 24 = .ok (.if_icmp .ne 10, 3) := by decide +kernel
theorem dX8_writeItem_27 : decode cX8_writeItem 27 = .ok (.aload_n 0, 1) := by decide +kernel
theorem dX8_writeItem_28 : decode cX8_writeItem 28 = .ok (.invokevirtual 157, 3) := by decide +kernel
theorem dX8_writeItem_31 : decode cX8_writeItem 31 = .ok (.goto 31, 3) := by decide +kernel
theorem dX8_writeItem_34 : decode cX8_writeItem 34 = .ok (.aload_n 0, 1) := by decide +kernel
theorem dX8_writeItem_35 : decode cX8_writeItem 35 = .ok (.getfield 46, 3) := by decide +kernel
theorem dX8_writeItem_38 : decode cX8_writeItem 38 = .ok (.iconst 2, 1) := by decide +kernel
theorem dX8_writeItem_39 : decode cX8_writeItem 39 = .ok (.if_icmp .ne 10, 3) := by decide +kernel
theorem dX8_writeItem_42 : decode cX8_writeItem 42 = .ok (.aload_n 0, 1) := by decide +kernel
theorem dX8_writeItem_43 : decode cX8_writeItem 43 = .ok (.invokevirtual 160, 3) := by decide +kernel
theorem dX8_writeItem_46 : decode cX8_writeItem 46 = .ok (.goto 16, 3) := by decide +kernel
theorem dX8_writeItem_49 : decode cX8_writeItem 49 = .ok (.aload_n 0, 1) := by decide +kernel
theorem dX8_writeItem_50 : decode cX8_writeItem 50 = .ok (.bipush 119, 2) := by decide +kernel
theorem dX8_writeItem_52 : decode cX8_writeItem 52 = .ok (.bipush 104, 2) := by decide +kernel
theorem dX8_writeItem_54 : decode cX8_writeItem 54 = .ok (.bipush 97, 2) := by decide +kernel
theorem dX8_writeItem_56 : decode cX8_writeItem 56 = .ok (.bipush 116, 2) := by decide +kernel
theorem dX8_writeItem_58 : decode cX8_writeItem 58 = .ok (.iconst 0, 1) := by decide +kernel
theorem dX8_writeItem_59 : decode cX8_writeItem 59 = .ok (.invokevirtual 144, 3) := by decide +kernel
theorem dX8_writeItem_62 : decode cX8_writeItem 62 = .ok (.aload_n 0, 1) := by decide +kernel
theorem dX8_writeItem_63 : decode cX8_writeItem 63 = .ok (.getfield 42, 3) := by decide +kernel
theorem dX8_writeItem_66 : decode cX8_writeItem 66 = .ok (.ifCond .le 44, 3) := by decide +kernel
theorem dX8_writeItem_69 : decode cX8_writeItem 69 = .ok (.aload_n 0, 1) := by decide +kernel
theorem dX8_writeItem_70 : decode cX8_writeItem 70 = .ok (.aload_n 0, 1) := by decide +kernel
theorem dX8_writeItem_71 : decode cX8_writeItem 71 = .ok (.getfield 46, 3) := by decide +kernel
theorem dX8_writeItem_74 : decode cX8_writeItem 74 = .ok (.iconst 1, 1) := by decide +kernel
theorem dX8_writeItem_75 : decode cX8_writeItem 75 = .ok (.if_icmp .ne 27, 3) := by decide +kernel
theorem dX8_writeItem_78 : decode cX8_writeItem 78 = .ok (.aload_n 0, 1) := by decide +kernel
theorem dX8_writeItem_79 : decode cX8_writeItem 79 = .ok (.getfield 49, 3) := by decide +kernel
theorem dX8_writeItem_82 : decode cX8_writeItem 82 = .ok (.iconst 1, 1) := by decide +kernel
theorem dX8_writeItem_83 : decode cX8_writeItem 83 = .ok (.if_icmp .eq 11, 3) := by decide +kernel
theorem dX8_writeItem_86 : decode cX8_writeItem 86 = .ok (.aload_n 0, 1) := by decide +kernel
theorem dX8_writeItem_87 : decode cX8_writeItem 87 = .ok (.getfield 49, 3) := by decide +kernel
theorem dX8_writeItem_90 : decode cX8_writeItem 90 = .ok (.iconst 2, 1) := by decide +kernel
theorem dX8_writeItem_91 : decode cX8_writeItem 91 = .ok (.if_icmp .ne 11, 3) := by decide +kernel
theorem dX8_writeItem_94 : decode cX8_writeItem 94 = .ok (.aload_n 0, 1) := by decide +kernel
theorem dX8_writeItem_95 : decode cX8_writeItem 95 = .ok (.getfield 56, 3) := by decide +kernel
theorem dX8_writeItem_98 : decode cX8_writeItem 98 = .ok (.i2l, 1) := by decide +kernel
theorem dX8_writeItem_99 : decode cX8_writeItem 99 = .ok (.goto 8, 3) := by decide +kernel
theorem dX8_writeItem_102 : decode cX8_writeItem 102 = .ok (.aload_n 0, 1) := by decide +kernel
theorem dX8_writeItem_103 : decode cX8_writeItem 103 = .ok (.getfield 52, 3) := by decide +kernel
theorem dX8_writeItem_106 : decode cX8_writeItem 106 = .ok (.i2l, 1) := by decide +kernel
theorem dX8_writeItem_107 : decode cX8_writeItem 107 = .ok (.invokevirtual 163, 3) := by decide +kernel
theorem dX8_writeItem_110 : decode cX8_writeItem 110 = .ok (.return_, 1) := by decide +kernel
theorem dX8_written_0 : decode cX8_written 0 = .ok (.iload_n 1, 1) := by decide +kernel
theorem dX8_written_1 : decode cX8_written 1 = .ok (.ifCond .lt 11, 3) := by decide +kernel
theorem dX8_written_4 : decode cX8_written 4 = .ok (.iload_n 1, 1) := by decide +kernel
theorem dX8_written_5 : decode cX8_written 5 = .ok (.aload_n 0, 1) := by decide +kernel
theorem dX8_written_6 : decode cX8_written 6 = .ok (.invokevirtual 138, 3) := by decide +kernel
theorem dX8_written_9 : decode cX8_written 9 = .ok (.if_icmp .lt 6, 3) := by decide +kernel
theorem dX8_written_12 : decode cX8_written 12 = .ok (.bipush (-6), 2) := by decide +kernel
theorem dX8_written_14 : decode cX8_written 14 = .ok (.ireturn, 1) := by decide +kernel
theorem dX8_written_15 : decode cX8_written 15 = .ok (.iconst 0, 1) := by decide +kernel
theorem dX8_written_16 : decode cX8_written 16 = .ok (.istore_n 3, 1) := by decide +kernel
theorem dX8_written_17 : decode cX8_written 17 = .ok (.iconst 0, 1) := by decide +kernel
theorem dX8_written_18 : decode cX8_written 18 = .ok (.istore 4, 2) := by decide +kernel
theorem dX8_written_20 : decode cX8_written 20 = .ok (.iload 4, 2) := by decide +kernel
theorem dX8_written_22 : decode cX8_written 22 = .ok (.iload_n 1, 1) := by decide +kernel
theorem dX8_written_23 : decode cX8_written 23 = .ok (.if_icmp .gt 38, 3) := by decide +kernel
theorem dX8_written_26 : decode cX8_written 26 = .ok (.iload_n 3, 1) := by decide +kernel
theorem dX8_written_27 : decode cX8_written 27 = .ok (.iload 4, 2) := by decide +kernel
theorem dX8_written_29 : decode cX8_written 29 = .ok (.ifCond .le 12, 3) := by decide +kernel
theorem dX8_written_32 : decode cX8_written 32 = .ok (.iconst 1, 1) := by decide +kernel
theorem dX8_written_33 : decode cX8_written 33 = .ok (.aload_n 0, 1) := by decide +kernel
theorem dX8_written_34 : decode cX8_written 34 = .ok (.getfield 42, 3) := by decide +kernel
theorem dX8_written_37 : decode cX8_written 37 = .ok (.iadd, 1) := by decide +kernel
theorem dX8_written_38 : decode cX8_written 38 = .ok (.goto 4, 3) := by decide +kernel
theorem dX8_written_41 : decode cX8_written 41 = .ok (.iconst 0, 1) := by decide +kernel
theorem dX8_written_42 : decode cX8_written 42 = .ok (.iadd, 1) := by decide +kernel
theorem dX8_written_43 : decode cX8_written 43 = .ok (.istore_n 3, 1) := by decide +kernel
theorem dX8_written_44 : decode cX8_written 44 = .ok (.aload_n 0, 1) := by decide +kernel
theorem dX8_written_45 : decode cX8_written 45 = .ok (.iload_n 3, 1) := by decide +kernel
theorem dX8_written_46 : decode cX8_written 46 = .ok (.invokevirtual 121, 3) := by decide +kernel
theorem dX8_written_49 : decode cX8_written 49 = .ok (.ifCond .ne 6, 3) := by decide +kernel
theorem dX8_written_52 : decode cX8_written 52 = .ok (.bipush (-6), 2) := by decide +kernel
theorem dX8_written_54 : decode cX8_written 54 = .ok (.ireturn, 1) := by decide +kernel
theorem dX8_written_55 : decode cX8_written 55 = .ok (.iinc 4 1, 3) := by decide +kernel
theorem dX8_written_58 : decode cX8_written 58 = .ok (.goto (-38), 3) := by decide +kernel
theorem dX8_written_61 : decode cX8_written 61 = .ok (.aload_n 0, 1) := by decide +kernel
theorem dX8_written_62 : decode cX8_written 62 = .ok (.invokevirtual 167, 3) := by decide +kernel
theorem dX8_written_65 : decode cX8_written 65 = .ok (.iload_n 2, 1) := by decide +kernel
theorem dX8_written_66 : decode cX8_written 66 = .ok (.iconst (-1), 1) := by decide +kernel
theorem dX8_written_67 : decode cX8_written 67 = .ok (.if_icmp .ne 10, 3) := by decide +kernel
theorem dX8_written_70 : decode cX8_written 70 = .ok (.aload_n 0, 1) := by decide +kernel
theorem dX8_written_71 : decode cX8_written 71 = .ok (.getfield 141, 3) := by decide +kernel
theorem dX8_written_74 : decode cX8_written 74 = .ok (.goto 28, 3) := by decide +kernel
theorem dX8_written_77 : decode cX8_written 77 = .ok (.iload_n 2, 1) := by decide +kernel
theorem dX8_written_78 : decode cX8_written 78 = .ok (.iconst 0, 1) := by decide +kernel
theorem dX8_written_79 : decode cX8_written 79 = .ok (.aload_n 0, 1) := by decide +kernel
theorem dX8_written_80 : decode cX8_written 80 = .ok (.getfield 141, 3) := by decide +kernel
theorem dX8_written_83 : decode cX8_written 83 = .ok (.iconst 1, 1) := by decide +kernel
theorem dX8_written_84 : decode cX8_written 84 = .ok (.isub, 1) := by decide +kernel
theorem dX8_written_85 : decode cX8_written 85 = .ok (.invokestatic 60, 3) := by decide +kernel
theorem dX8_written_88 : decode cX8_written 88 = .ok (.ifCond .eq 12, 3) := by decide +kernel
theorem dX8_written_91 : decode cX8_written 91 = .ok (.aload_n 0, 1) := by decide +kernel
theorem dX8_written_92 : decode cX8_written 92 = .ok (.getfield 35, 3) := by decide +kernel
theorem dX8_written_95 : decode cX8_written 95 = .ok (.iload_n 2, 1) := by decide +kernel
theorem dX8_written_96 : decode cX8_written 96 = .ok (.iaload, 1) := by decide +kernel
theorem dX8_written_97 : decode cX8_written 97 = .ok (.goto 5, 3) := by decide +kernel
theorem dX8_written_100 : decode cX8_written 100 = .ok (.bipush (-6), 2) := by decide +kernel
theorem dX8_written_102 : decode cX8_written 102 = .ok (.ireturn, 1) := by decide +kernel
theorem dX8_of_0 : decode cX8_of 0 = .ok (.aload_n 0, 1) := by decide +kernel
theorem dX8_of_1 : decode cX8_of 1 = .ok (.getfield 7, 3) := by decide +kernel
theorem dX8_of_4 : decode cX8_of 4 = .ok (.bipush 96, 2) := by decide +kernel
theorem dX8_of_6 : decode cX8_of 6 = .ok (.bipush 14, 2) := by decide +kernel
theorem dX8_of_8 : decode cX8_of 8 = .ok (.iload_n 1, 1) := by decide +kernel
theorem dX8_of_9 : decode cX8_of 9 = .ok (.imul, 1) := by decide +kernel
theorem dX8_of_10 : decode cX8_of 10 = .ok (.iadd, 1) := by decide +kernel
theorem dX8_of_11 : decode cX8_of 11 = .ok (.iload_n 2, 1) := by decide +kernel
theorem dX8_of_12 : decode cX8_of 12 = .ok (.iadd, 1) := by decide +kernel
theorem dX8_of_13 : decode cX8_of 13 = .ok (.iaload, 1) := by decide +kernel
theorem dX8_of_14 : decode cX8_of 14 = .ok (.ireturn, 1) := by decide +kernel
theorem dX8_isField_0 : decode cX8_isField 0 = .ok (.iload_n 1, 1) := by decide +kernel
theorem dX8_isField_1 : decode cX8_isField 1 = .ok (.iconst 0, 1) := by decide +kernel
theorem dX8_isField_2 : decode cX8_isField 2 = .ok (.aload_n 0, 1) := by decide +kernel
theorem dX8_isField_3 : decode cX8_isField 3 = .ok (.getfield 7, 3) := by decide +kernel
theorem dX8_isField_6 : decode cX8_isField 6 = .ok (.sipush 3286, 3) := by decide +kernel
theorem dX8_isField_9 : decode cX8_isField 9 = .ok (.iaload, 1) := by decide +kernel
theorem dX8_isField_10 : decode cX8_isField 10 = .ok (.iconst 1, 1) := by decide +kernel
theorem dX8_isField_11 : decode cX8_isField 11 = .ok (.isub, 1) := by decide +kernel
theorem dX8_isField_12 : decode cX8_isField 12 = .ok (.invokestatic 60, 3) := by decide +kernel
theorem dX8_isField_15 : decode cX8_isField 15 = .ok (.ireturn, 1) := by decide +kernel
theorem dX8_field_0 : decode cX8_field 0 = .ok (.aload_n 0, 1) := by decide +kernel
theorem dX8_field_1 : decode cX8_field 1 = .ok (.iload_n 1, 1) := by decide +kernel
theorem dX8_field_2 : decode cX8_field 2 = .ok (.invokevirtual 170, 3) := by decide +kernel
theorem dX8_field_5 : decode cX8_field 5 = .ok (.ifCond .ne 5, 3) := by decide +kernel
theorem dX8_field_8 : decode cX8_field 8 = .ok (.iconst (-1), 1) := by decide +kernel
theorem dX8_field_9 : decode cX8_field 9 = .ok (.ireturn, 1) := by decide +kernel
theorem dX8_field_10 : decode cX8_field 10 = .ok (.aload_n 0, 1) := by decide +kernel
theorem dX8_field_11 : decode cX8_field 11 = .ok (.iload_n 1, 1) := by decide +kernel
theorem dX8_field_12 : decode cX8_field 12 = .ok (.bipush 6, 2) := by decide +kernel
theorem dX8_field_14 : decode cX8_field 14 = .ok (.invokevirtual 173, 3) := by decide +kernel
theorem dX8_field_17 : decode cX8_field 17 = .ok (.iconst 1, 1) := by decide +kernel
theorem dX8_field_18 : decode cX8_field 18 = .ok (.if_icmp .ne 7, 3) := by decide +kernel
theorem dX8_field_21 : decode cX8_field 21 = .ok (.iconst 1, 1) := by decide +kernel
theorem dX8_field_22 : decode cX8_field 22 = .ok (.goto 4, 3) := by decide +kernel
theorem dX8_field_25 : decode cX8_field 25 = .ok (.iconst 0, 1) := by decide +kernel
theorem dX8_field_26 : decode cX8_field 26 = .ok (.istore_n 3, 1) := by decide +kernel
theorem dX8_field_27 : decode cX8_field 27 = .ok (.iload_n 3, 1) := by decide +kernel
theorem dX8_field_28 : decode cX8_field 28 = .ok (.ifCond .eq 22, 3) := by decide +kernel
theorem dX8_field_31 : decode cX8_field 31 = .ok (.aload_n 0, 1) := by decide +kernel
theorem dX8_field_32 : decode cX8_field 32 = .ok (.getfield 7, 3) := by decide +kernel
theorem dX8_field_35 : decode cX8_field 35 = .ok (.sipush 2388, 3) := by decide +kernel
theorem dX8_field_38 : decode cX8_field 38 = .ok (.aload_n 0, 1) := by decide +kernel
theorem dX8_field_39 : decode cX8_field 39 = .ok (.iload_n 1, 1) := by decide +kernel
theorem dX8_field_40 : decode cX8_field 40 = .ok (.bipush 9, 2) := by decide +kernel
theorem dX8_field_42 : decode cX8_field 42 = .ok (.invokevirtual 173, 3) := by decide +kernel
theorem dX8_field_45 : decode cX8_field 45 = .ok (.iadd, 1) := by decide +kernel
theorem dX8_field_46 : decode cX8_field 46 = .ok (.iaload, 1) := by decide +kernel
theorem dX8_field_47 : decode cX8_field 47 = .ok (.goto 4, 3) := by decide +kernel
theorem dX8_field_50 : decode cX8_field 50 = .ok (.iconst 1, 1) := by decide +kernel
theorem dX8_field_51 : decode cX8_field 51 = .ok (.istore 4, 2) := by decide +kernel
theorem dX8_field_53 : decode cX8_field 53 = .ok (.iload_n 2, 1) := by decide +kernel
theorem dX8_field_54 : decode cX8_field 54 = .ok (.tableswitch 123 0 11 #[62, 62, 62, 62, 62, 62, 62, 62, 62, 69, 72, 115], 62) := by decide +kernel
theorem dX8_field_116 : decode cX8_field 116 = .ok (.aload_n 0, 1) := by decide +kernel
theorem dX8_field_117 : decode cX8_field 117 = .ok (.iload_n 1, 1) := by decide +kernel
theorem dX8_field_118 : decode cX8_field 118 = .ok (.iload_n 2, 1) := by decide +kernel
theorem dX8_field_119 : decode cX8_field 119 = .ok (.invokevirtual 173, 3) := by decide +kernel
theorem dX8_field_122 : decode cX8_field 122 = .ok (.ireturn, 1) := by decide +kernel
theorem dX8_field_123 : decode cX8_field 123 = .ok (.iload 4, 2) := by decide +kernel
theorem dX8_field_125 : decode cX8_field 125 = .ok (.ireturn, 1) := by decide +kernel
theorem dX8_field_126 : decode cX8_field 126 = .ok (.iload_n 3, 1) := by decide +kernel
theorem dX8_field_127 : decode cX8_field 127 = .ok (.ifCond .ne 13, 3) := by decide +kernel
theorem dX8_field_130 : decode cX8_field 130 = .ok (.aload_n 0, 1) := by decide +kernel
theorem dX8_field_131 : decode cX8_field 131 = .ok (.iload_n 1, 1) := by decide +kernel
theorem dX8_field_132 : decode cX8_field 132 = .ok (.bipush 10, 2) := by decide +kernel
theorem dX8_field_134 : decode cX8_field 134 = .ok (.invokevirtual 173, 3) := by decide +kernel
theorem dX8_field_137 : decode cX8_field 137 = .ok (.goto 31, 3) := by decide +kernel
theorem dX8_field_140 : decode cX8_field 140 = .ok (.iload 4, 2) := by decide +kernel
theorem dX8_field_142 : decode cX8_field 142 = .ok (.ifCond .ne 7, 3) := by decide +kernel
theorem dX8_field_145 : decode cX8_field 145 = .ok (.iconst 0, 1) := by decide +kernel
theorem dX8_field_146 : decode cX8_field 146 = .ok (.goto 22, 3) := by decide +kernel
theorem dX8_field_149 : decode cX8_field 149 = .ok (.aload_n 0, 1) := by decide +kernel
theorem dX8_field_150 : decode cX8_field 150 = .ok (.getfield 7, 3) := by decide +kernel
theorem dX8_field_153 : decode cX8_field 153 = .ok (.sipush 852, 3) := by decide +kernel
theorem dX8_field_156 : decode cX8_field 156 = .ok (.bipush 32, 2) := by decide +kernel
theorem dX8_field_158 : decode cX8_field 158 = .ok (.aload_n 0, 1) := by decide +kernel
theorem dX8_field_159 : decode cX8_field 159 = .ok (.iload_n 1, 1) := by decide +kernel
theorem dX8_field_160 : decode cX8_field 160 = .ok (.bipush 9, 2) := by decide +kernel
theorem dX8_field_162 : decode cX8_field 162 = .ok (.invokevirtual 173, 3) := by decide +kernel
theorem dX8_field_165 : decode cX8_field 165 = .ok (.imul, 1) := by decide +kernel
theorem dX8_field_166 : decode cX8_field 166 = .ok (.iadd, 1) := by decide +kernel
theorem dX8_field_167 : decode cX8_field 167 = .ok (.iaload, 1) := by decide +kernel
theorem dX8_field_168 : decode cX8_field 168 = .ok (.ireturn, 1) := by decide +kernel
theorem dX8_field_169 : decode cX8_field 169 = .ok (.aload_n 0, 1) := by decide +kernel
theorem dX8_field_170 : decode cX8_field 170 = .ok (.iload_n 1, 1) := by decide +kernel
theorem dX8_field_171 : decode cX8_field 171 = .ok (.bipush 11, 2) := by decide +kernel
theorem dX8_field_173 : decode cX8_field 173 = .ok (.invokevirtual 173, 3) := by decide +kernel
theorem dX8_field_176 : decode cX8_field 176 = .ok (.ireturn, 1) := by decide +kernel
theorem dX8_field_177 : decode cX8_field 177 = .ok (.bipush (-2), 2) := by decide +kernel
theorem dX8_field_179 : decode cX8_field 179 = .ok (.ireturn, 1) := by decide +kernel
theorem dX8_isWithin_0 : decode cX8_isWithin 0 = .ok (.iload_n 1, 1) := by decide +kernel
theorem dX8_isWithin_1 : decode cX8_isWithin 1 = .ok (.istore_n 3, 1) := by decide +kernel
theorem dX8_isWithin_2 : decode cX8_isWithin 2 = .ok (.iload_n 3, 1) := by decide +kernel
theorem dX8_isWithin_3 : decode cX8_isWithin 3 = .ok (.ifCond .lt 26, 3) := by decide +kernel
theorem dX8_isWithin_6 : decode cX8_isWithin 6 = .ok (.iload_n 3, 1) := by decide +kernel
theorem dX8_isWithin_7 : decode cX8_isWithin 7 = .ok (.iload_n 2, 1) := by decide +kernel
theorem dX8_isWithin_8 : decode cX8_isWithin 8 = .ok (.if_icmp .eq 21, 3) := by decide +kernel
theorem dX8_isWithin_11 : decode cX8_isWithin 11 = .ok (.aload_n 0, 1) := by decide +kernel
theorem dX8_isWithin_12 : decode cX8_isWithin 12 = .ok (.getfield 7, 3) := by decide +kernel
theorem dX8_isWithin_15 : decode cX8_isWithin 15 = .ok (.sipush 768, 3) := by decide +kernel
theorem dX8_isWithin_18 : decode cX8_isWithin 18 = .ok (.iconst 3, 1) := by decide +kernel
theorem dX8_isWithin_19 : decode cX8_isWithin 19 = .ok (.iload_n 3, 1) := by decide +kernel
theorem dX8_isWithin_20 : decode cX8_isWithin 20 = .ok (.imul, 1) := by decide +kernel
theorem dX8_isWithin_21 : decode cX8_isWithin 21 = .ok (.iadd, 1) := by decide +kernel
theorem dX8_isWithin_22 : decode cX8_isWithin 22 = .ok (.iconst 2, 1) := by decide +kernel
theorem dX8_isWithin_23 : decode cX8_isWithin 23 = .ok (.iadd, 1) := by decide +kernel
theorem dX8_isWithin_24 : decode cX8_isWithin 24 = .ok (.iaload, 1) := by decide +kernel
theorem dX8_isWithin_25 : decode cX8_isWithin 25 = .ok (.istore_n 3, 1) := by decide +kernel
theorem dX8_isWithin_26 : decode cX8_isWithin 26 = .ok (.goto (-24), 3) := by decide +kernel
theorem dX8_isWithin_29 : decode cX8_isWithin 29 = .ok (.iload_n 3, 1) := by decide +kernel
theorem dX8_isWithin_30 : decode cX8_isWithin 30 = .ok (.iload_n 2, 1) := by decide +kernel
theorem dX8_isWithin_31 : decode cX8_isWithin 31 = .ok (.if_icmp .ne 7, 3) := by decide +kernel
theorem dX8_isWithin_34 : decode cX8_isWithin 34 = .ok (.iconst 1, 1) := by decide +kernel
theorem dX8_isWithin_35 : decode cX8_isWithin 35 = .ok (.goto 4, 3) := by decide +kernel
theorem dX8_isWithin_38 : decode cX8_isWithin 38 = .ok (.iconst 0, 1) := by decide +kernel
theorem dX8_isWithin_39 : decode cX8_isWithin 39 = .ok (.ireturn, 1) := by decide +kernel
theorem dX8_group_0 : decode cX8_group 0 = .ok (.iload_n 2, 1) := by decide +kernel
theorem dX8_group_1 : decode cX8_group 1 = .ok (.iconst 0, 1) := by decide +kernel
theorem dX8_group_2 : decode cX8_group 2 = .ok (.iconst 3, 1) := by decide +kernel
theorem dX8_group_3 : decode cX8_group 3 = .ok (.invokestatic 60, 3) := by decide +kernel
theorem dX8_group_6 : decode cX8_group 6 = .ok (.ifCond .ne 6, 3) := by decide +kernel
theorem dX8_group_9 : decode cX8_group 9 = .ok (.bipush (-2), 2) := by decide +kernel
theorem dX8_group_11 : decode cX8_group 11 = .ok (.ireturn, 1) := by decide +kernel
theorem dX8_group_12 : decode cX8_group 12 = .ok (.iload_n 1, 1) := by decide +kernel
theorem dX8_group_13 : decode cX8_group 13 = .ok (.iconst 0, 1) := by decide +kernel
theorem dX8_group_14 : decode cX8_group 14 = .ok (.aload_n 0, 1) := by decide +kernel
theorem dX8_group_15 : decode cX8_group 15 = .ok (.getfield 7, 3) := by decide +kernel
theorem dX8_group_18 : decode cX8_group 18 = .ok (.sipush 3287, 3) := by decide +kernel
theorem dX8_group_21 : decode cX8_group 21 = .ok (.iaload, 1) := by decide +kernel
theorem dX8_group_22 : decode cX8_group 22 = .ok (.iconst 1, 1) := by decide +kernel
theorem dX8_group_23 : decode cX8_group 23 = .ok (.isub, 1) := by decide +kernel
theorem dX8_group_24 : decode cX8_group 24 = .ok (.invokestatic 60, 3) := by decide +kernel
theorem dX8_group_27 : decode cX8_group 27 = .ok (.ifCond .ne 6, 3) := by decide +kernel
theorem dX8_group_30 : decode cX8_group 30 = .ok (.bipush (-6), 2) := by decide +kernel
theorem dX8_group_32 : decode cX8_group 32 = .ok (.ireturn, 1) := by decide +kernel
theorem dX8_group_33 : decode cX8_group 33 = .ok (.iload_n 2, 1) := by decide +kernel
theorem dX8_group_34 : decode cX8_group 34 = .ok (.iconst 3, 1) := by decide +kernel
theorem dX8_group_35 : decode cX8_group 35 = .ok (.if_icmp .ge 18, 3) := by decide +kernel
theorem dX8_group_38 : decode cX8_group 38 = .ok (.aload_n 0, 1) := by decide +kernel
theorem dX8_group_39 : decode cX8_group 39 = .ok (.getfield 7, 3) := by decide +kernel
theorem dX8_group_42 : decode cX8_group 42 = .ok (.sipush 768, 3) := by decide +kernel
theorem dX8_group_45 : decode cX8_group 45 = .ok (.iconst 3, 1) := by decide +kernel
theorem dX8_group_46 : decode cX8_group 46 = .ok (.iload_n 1, 1) := by decide +kernel
theorem dX8_group_47 : decode cX8_group 47 = .ok (.imul, 1) := by decide +kernel
theorem dX8_group_48 : decode cX8_group 48 = .ok (.iadd, 1) := by decide +kernel
theorem dX8_group_49 : decode cX8_group 49 = .ok (.iload_n 2, 1) := by decide +kernel
theorem dX8_group_50 : decode cX8_group 50 = .ok (.iadd, 1) := by decide +kernel
theorem dX8_group_51 : decode cX8_group 51 = .ok (.iaload, 1) := by decide +kernel
theorem dX8_group_52 : decode cX8_group 52 = .ok (.ireturn, 1) := by decide +kernel
theorem dX8_group_53 : decode cX8_group 53 = .ok (.iconst 0, 1) := by decide +kernel
theorem dX8_group_54 : decode cX8_group 54 = .ok (.istore_n 3, 1) := by decide +kernel
theorem dX8_group_55 : decode cX8_group 55 = .ok (.iconst 0, 1) := by decide +kernel
theorem dX8_group_56 : decode cX8_group 56 = .ok (.istore 4, 2) := by decide +kernel
theorem dX8_group_58 : decode cX8_group 58 = .ok (.iload 4, 2) := by decide +kernel
theorem dX8_group_60 : decode cX8_group 60 = .ok (.aload_n 0, 1) := by decide +kernel
theorem dX8_group_61 : decode cX8_group 61 = .ok (.getfield 7, 3) := by decide +kernel
theorem dX8_group_64 : decode cX8_group 64 = .ok (.sipush 3286, 3) := by decide +kernel
theorem dX8_group_67 : decode cX8_group 67 = .ok (.iaload, 1) := by decide +kernel
theorem dX8_group_68 : decode cX8_group 68 = .ok (.if_icmp .ge 33, 3) := by decide +kernel
theorem dX8_group_71 : decode cX8_group 71 = .ok (.iload_n 3, 1) := by decide +kernel
theorem dX8_group_72 : decode cX8_group 72 = .ok (.aload_n 0, 1) := by decide +kernel
theorem dX8_group_73 : decode cX8_group 73 = .ok (.aload_n 0, 1) := by decide +kernel
theorem dX8_group_74 : decode cX8_group 74 = .ok (.iload 4, 2) := by decide +kernel
theorem dX8_group_76 : decode cX8_group 76 = .ok (.bipush 11, 2) := by decide +kernel
theorem dX8_group_78 : decode cX8_group 78 = .ok (.invokevirtual 173, 3) := by decide +kernel
theorem dX8_group_81 : decode cX8_group 81 = .ok (.iload_n 1, 1) := by decide +kernel
theorem dX8_group_82 : decode cX8_group 82 = .ok (.invokevirtual 177, 3) := by decide +kernel
theorem dX8_group_85 : decode cX8_group 85 = .ok (.ifCond .eq 7, 3) := by decide +kernel
theorem dX8_group_88 : decode cX8_group 88 = .ok (.iconst 1, 1) := by decide +kernel
theorem dX8_group_89 : decode cX8_group 89 = .ok (.goto 4, 3) := by decide +kernel
theorem dX8_group_92 : decode cX8_group 92 = .ok (.iconst 0, 1) := by decide +kernel
theorem dX8_group_93 : decode cX8_group 93 = .ok (.iadd, 1) := by decide +kernel
theorem dX8_group_94 : decode cX8_group 94 = .ok (.istore_n 3, 1) := by decide +kernel
theorem dX8_group_95 : decode cX8_group 95 = .ok (.iinc 4 1, 3) := by decide +kernel
theorem dX8_group_98 : decode cX8_group 98 = .ok (.goto (-40), 3) := by decide +kernel
theorem dX8_group_101 : decode cX8_group 101 = .ok (.iload_n 3, 1) := by decide +kernel
theorem dX8_group_102 : decode cX8_group 102 = .ok (.ireturn, 1) := by decide +kernel
theorem dX8_length_0 : decode cX8_length 0 = .ok (.iload_n 1, 1) := by decide +kernel
theorem dX8_length_1 : decode cX8_length 1 = .ok (.iconst 0, 1) := by decide +kernel
theorem dX8_length_2 : decode cX8_length 2 = .ok (.iconst 2, 1) := by decide +kernel
theorem dX8_length_3 : decode cX8_length 3 = .ok (.invokestatic 60, 3) := by decide +kernel
theorem dX8_length_6 : decode cX8_length 6 = .ok (.ifCond .eq 31, 3) := by decide +kernel
theorem dX8_length_9 : decode cX8_length 9 = .ok (.iload_n 2, 1) := by decide +kernel
theorem dX8_length_10 : decode cX8_length 10 = .ok (.iconst 0, 1) := by decide +kernel
theorem dX8_length_11 : decode cX8_length 11 = .ok (.bipush 15, 2) := by decide +kernel
theorem dX8_length_13 : decode cX8_length 13 = .ok (.invokestatic 60, 3) := by decide +kernel
theorem dX8_length_16 : decode cX8_length 16 = .ok (.ifCond .eq 21, 3) := by decide +kernel
theorem dX8_length_19 : decode cX8_length 19 = .ok (.aload_n 0, 1) := by decide +kernel
theorem dX8_length_20 : decode cX8_length 20 = .ok (.getfield 7, 3) := by decide +kernel
theorem dX8_length_23 : decode cX8_length 23 = .ok (.sipush 804, 3) := by decide +kernel
theorem dX8_length_26 : decode cX8_length 26 = .ok (.bipush 16, 2) := by decide +kernel
theorem dX8_length_28 : decode cX8_length 28 = .ok (.iload_n 1, 1) := by decide +kernel
theorem dX8_length_29 : decode cX8_length 29 = .ok (.imul, 1) := by decide +kernel
theorem dX8_length_30 : decode cX8_length 30 = .ok (.iadd, 1) := by decide +kernel
theorem dX8_length_31 : decode cX8_length 31 = .ok (.iload_n 2, 1) := by decide +kernel
theorem dX8_length_32 : decode cX8_length 32 = .ok (.iadd, 1) := by decide +kernel
theorem dX8_length_33 : decode cX8_length 33 = .ok (.iaload, 1) := by decide +kernel
theorem dX8_length_34 : decode cX8_length 34 = .ok (.goto 5, 3) := by decide +kernel
theorem dX8_length_37 : decode cX8_length 37 = .ok (.bipush (-2), 2) := by decide +kernel
theorem dX8_length_39 : decode cX8_length 39 = .ok (.ireturn, 1) := by decide +kernel
theorem dX8_put_0 : decode cX8_put 0 = .ok (.iload_n 1, 1) := by decide +kernel
theorem dX8_put_1 : decode cX8_put 1 = .ok (.iconst 0, 1) := by decide +kernel
theorem dX8_put_2 : decode cX8_put 2 = .ok (.sipush 255, 3) := by decide +kernel
theorem dX8_put_5 : decode cX8_put 5 = .ok (.invokestatic 60, 3) := by decide +kernel
theorem dX8_put_8 : decode cX8_put 8 = .ok (.ifCond .ne 6, 3) := by decide +kernel
theorem dX8_put_11 : decode cX8_put 11 = .ok (.bipush (-2), 2) := by decide +kernel
theorem dX8_put_13 : decode cX8_put 13 = .ok (.ireturn, 1) := by decide +kernel
theorem dX8_put_14 : decode cX8_put 14 = .ok (.aload_n 0, 1) := by decide +kernel
theorem dX8_put_15 : decode cX8_put 15 = .ok (.getfield 7, 3) := by decide +kernel
theorem dX8_put_18 : decode cX8_put 18 = .ok (.sipush 3288, 3) := by decide +kernel
theorem dX8_put_21 : decode cX8_put 21 = .ok (.iaload, 1) := by decide +kernel
theorem dX8_put_22 : decode cX8_put 22 = .ok (.bipush 33, 2) := by decide +kernel
theorem dX8_put_24 : decode cX8_put 24 = .ok (.if_icmp .ne 6, 3) := by decide +kernel
theorem dX8_put_27 : decode cX8_put 27 = .ok (.bipush (-4), 2) := by decide +kernel
theorem dX8_put_29 : decode cX8_put 29 = .ok (.ireturn, 1) := by decide +kernel
theorem dX8_put_30 : decode cX8_put 30 = .ok (.aload_n 0, 1) := by decide +kernel
theorem dX8_put_31 : decode cX8_put 31 = .ok (.getfield 7, 3) := by decide +kernel
theorem dX8_put_34 : decode cX8_put 34 = .ok (.sipush 2484, 3) := by decide +kernel
theorem dX8_put_37 : decode cX8_put 37 = .ok (.aload_n 0, 1) := by decide +kernel
theorem dX8_put_38 : decode cX8_put 38 = .ok (.getfield 7, 3) := by decide +kernel
theorem dX8_put_41 : decode cX8_put 41 = .ok (.sipush 3288, 3) := by decide +kernel
theorem dX8_put_44 : decode cX8_put 44 = .ok (.iaload, 1) := by decide +kernel
theorem dX8_put_45 : decode cX8_put 45 = .ok (.iadd, 1) := by decide +kernel
theorem dX8_put_46 : decode cX8_put 46 = .ok (.iload_n 1, 1) := by decide +kernel
theorem dX8_put_47 : decode cX8_put 47 = .ok (.iastore, 1) := by decide +kernel
theorem dX8_put_48 : decode cX8_put 48 = .ok (.aload_n 0, 1) := by decide +kernel
theorem dX8_put_49 : decode cX8_put 49 = .ok (.getfield 7, 3) := by decide +kernel
theorem dX8_put_52 : decode cX8_put 52 = .ok (.sipush 3288, 3) := by decide +kernel
theorem dX8_put_55 : decode cX8_put 55 = .ok (.dup2, 1) := by decide +kernel
theorem dX8_put_56 : decode cX8_put 56 = .ok (.iaload, 1) := by decide +kernel
theorem dX8_put_57 : decode cX8_put 57 = .ok (.iconst 1, 1) := by decide +kernel
theorem dX8_put_58 : decode cX8_put 58 = .ok (.iadd, 1) := by decide +kernel
theorem dX8_put_59 : decode cX8_put 59 = .ok (.iastore, 1) := by decide +kernel
theorem dX8_put_60 : decode cX8_put 60 = .ok (.aload_n 0, 1) := by decide +kernel
theorem dX8_put_61 : decode cX8_put 61 = .ok (.getfield 7, 3) := by decide +kernel
theorem dX8_put_64 : decode cX8_put 64 = .ok (.sipush 3288, 3) := by decide +kernel
theorem dX8_put_67 : decode cX8_put 67 = .ok (.iaload, 1) := by decide +kernel
theorem dX8_put_68 : decode cX8_put 68 = .ok (.ireturn, 1) := by decide +kernel
theorem dX8_bitOfLetter_0 : decode cX8_bitOfLetter 0 = .ok (.aload_n 0, 1) := by decide +kernel
theorem dX8_bitOfLetter_1 : decode cX8_bitOfLetter 1 = .ok (.getfield 7, 3) := by decide +kernel
theorem dX8_bitOfLetter_4 : decode cX8_bitOfLetter 4 = .ok (.sipush 2484, 3) := by decide +kernel
theorem dX8_bitOfLetter_7 : decode cX8_bitOfLetter 7 = .ok (.aload_n 0, 1) := by decide +kernel
theorem dX8_bitOfLetter_8 : decode cX8_bitOfLetter 8 = .ok (.getfield 7, 3) := by decide +kernel
theorem dX8_bitOfLetter_11 : decode cX8_bitOfLetter 11 = .ok (.sipush 3292, 3) := by decide +kernel
theorem dX8_bitOfLetter_14 : decode cX8_bitOfLetter 14 = .ok (.iaload, 1) := by decide +kernel
theorem dX8_bitOfLetter_15 : decode cX8_bitOfLetter 15 = .ok (.iadd, 1) := by decide +kernel
theorem dX8_bitOfLetter_16 : decode cX8_bitOfLetter 16 = .ok (.iload_n 1, 1) := by decide +kernel
theorem dX8_bitOfLetter_17 : decode cX8_bitOfLetter 17 = .ok (.bipush 8, 2) := by decide +kernel
theorem dX8_bitOfLetter_19 : decode cX8_bitOfLetter 19 = .ok (.idiv, 1) := by decide +kernel
theorem dX8_bitOfLetter_20 : decode cX8_bitOfLetter 20 = .ok (.iadd, 1) := by decide +kernel
theorem dX8_bitOfLetter_21 : decode cX8_bitOfLetter 21 = .ok (.iaload, 1) := by decide +kernel
theorem dX8_bitOfLetter_22 : decode cX8_bitOfLetter 22 = .ok (.iload_n 1, 1) := by decide +kernel
theorem dX8_bitOfLetter_23 : decode cX8_bitOfLetter 23 = .ok (.bipush 8, 2) := by decide +kernel
theorem dX8_bitOfLetter_25 : decode cX8_bitOfLetter 25 = .ok (.irem, 1) := by decide +kernel
theorem dX8_bitOfLetter_26 : decode cX8_bitOfLetter 26 = .ok (.ishr, 1) := by decide +kernel
theorem dX8_bitOfLetter_27 : decode cX8_bitOfLetter 27 = .ok (.iconst 1, 1) := by decide +kernel
theorem dX8_bitOfLetter_28 : decode cX8_bitOfLetter 28 = .ok (.iand, 1) := by decide +kernel
theorem dX8_bitOfLetter_29 : decode cX8_bitOfLetter 29 = .ok (.ireturn, 1) := by decide +kernel
theorem dX8_numberIn_0 : decode cX8_numberIn 0 = .ok (.aload_n 0, 1) := by decide +kernel
theorem dX8_numberIn_1 : decode cX8_numberIn 1 = .ok (.iload_n 1, 1) := by decide +kernel
theorem dX8_numberIn_2 : decode cX8_numberIn 2 = .ok (.iconst 3, 1) := by decide +kernel
theorem dX8_numberIn_3 : decode cX8_numberIn 3 = .ok (.invokevirtual 173, 3) := by decide +kernel
theorem dX8_numberIn_6 : decode cX8_numberIn 6 = .ok (.istore_n 2, 1) := by decide +kernel
theorem dX8_numberIn_7 : decode cX8_numberIn 7 = .ok (.iconst 0, 1) := by decide +kernel
theorem dX8_numberIn_8 : decode cX8_numberIn 8 = .ok (.istore_n 3, 1) := by decide +kernel
theorem dX8_numberIn_9 : decode cX8_numberIn 9 = .ok (.iconst 0, 1) := by decide +kernel
theorem dX8_numberIn_10 : decode cX8_numberIn 10 = .ok (.istore 4, 2) := by decide +kernel
theorem dX8_numberIn_12 : decode cX8_numberIn 12 = .ok (.iload 4, 2) := by decide +kernel
theorem dX8_numberIn_14 : decode cX8_numberIn 14 = .ok (.iload_n 2, 1) := by decide +kernel
theorem dX8_numberIn_15 : decode cX8_numberIn 15 = .ok (.if_icmp .ge 28, 3) := by decide +kernel
theorem dX8_numberIn_18 : decode cX8_numberIn 18 = .ok (.iload_n 3, 1) := by decide +kernel
theorem dX8_numberIn_19 : decode cX8_numberIn 19 = .ok (.aload_n 0, 1) := by decide +kernel
theorem dX8_numberIn_20 : decode cX8_numberIn 20 = .ok (.aload_n 0, 1) := by decide +kernel
theorem dX8_numberIn_21 : decode cX8_numberIn 21 = .ok (.iload_n 1, 1) := by decide +kernel
theorem dX8_numberIn_22 : decode cX8_numberIn 22 = .ok (.iconst 2, 1) := by decide +kernel
theorem dX8_numberIn_23 : decode cX8_numberIn 23 = .ok (.invokevirtual 173, 3) := by decide +kernel
theorem dX8_numberIn_26 : decode cX8_numberIn 26 = .ok (.iload 4, 2) := by decide +kernel
theorem dX8_numberIn_28 : decode cX8_numberIn 28 = .ok (.iadd, 1) := by decide +kernel
theorem dX8_numberIn_29 : decode cX8_numberIn 29 = .ok (.invokevirtual 181, 3) := by decide +kernel
theorem dX8_numberIn_32 : decode cX8_numberIn 32 = .ok (.iload 4, 2) := by decide +kernel
theorem dX8_numberIn_34 : decode cX8_numberIn 34 = .ok (.ishl, 1) := by decide +kernel
theorem dX8_numberIn_35 : decode cX8_numberIn 35 = .ok (.ior, 1) := by decide +kernel
theorem dX8_numberIn_36 : decode cX8_numberIn 36 = .ok (.istore_n 3, 1) := by decide +kernel
theorem dX8_numberIn_37 : decode cX8_numberIn 37 = .ok (.iinc 4 1, 3) := by decide +kernel
theorem dX8_numberIn_40 : decode cX8_numberIn 40 = .ok (.goto (-28), 3) := by decide +kernel
theorem dX8_numberIn_43 : decode cX8_numberIn 43 = .ok (.aload_n 0, 1) := by decide +kernel
theorem dX8_numberIn_44 : decode cX8_numberIn 44 = .ok (.iload_n 1, 1) := by decide +kernel
theorem dX8_numberIn_45 : decode cX8_numberIn 45 = .ok (.iconst 4, 1) := by decide +kernel
theorem dX8_numberIn_46 : decode cX8_numberIn 46 = .ok (.invokevirtual 173, 3) := by decide +kernel
theorem dX8_numberIn_49 : decode cX8_numberIn 49 = .ok (.ifCond .ge 25, 3) := by decide +kernel
theorem dX8_numberIn_52 : decode cX8_numberIn 52 = .ok (.aload_n 0, 1) := by decide +kernel
theorem dX8_numberIn_53 : decode cX8_numberIn 53 = .ok (.aload_n 0, 1) := by decide +kernel
theorem dX8_numberIn_54 : decode cX8_numberIn 54 = .ok (.iload_n 1, 1) := by decide +kernel
theorem dX8_numberIn_55 : decode cX8_numberIn 55 = .ok (.iconst 2, 1) := by decide +kernel
theorem dX8_numberIn_56 : decode cX8_numberIn 56 = .ok (.invokevirtual 173, 3) := by decide +kernel
theorem dX8_numberIn_59 : decode cX8_numberIn 59 = .ok (.iload_n 2, 1) := by decide +kernel
theorem dX8_numberIn_60 : decode cX8_numberIn 60 = .ok (.iadd, 1) := by decide +kernel
theorem dX8_numberIn_61 : decode cX8_numberIn 61 = .ok (.iconst 1, 1) := by decide +kernel
theorem dX8_numberIn_62 : decode cX8_numberIn 62 = .ok (.isub, 1) := by decide +kernel
theorem dX8_numberIn_63 : decode cX8_numberIn 63 = .ok (.invokevirtual 181, 3) := by decide +kernel
theorem dX8_numberIn_66 : decode cX8_numberIn 66 = .ok (.iconst 1, 1) := by decide +kernel
theorem dX8_numberIn_67 : decode cX8_numberIn 67 = .ok (.if_icmp .ne 7, 3) := by decide +kernel
theorem dX8_numberIn_70 : decode cX8_numberIn 70 = .ok (.iconst 1, 1) := by decide +kernel
theorem dX8_numberIn_71 : decode cX8_numberIn 71 = .ok (.goto 4, 3) := by decide +kernel
theorem dX8_numberIn_74 : decode cX8_numberIn 74 = .ok (.iconst 0, 1) := by decide +kernel
theorem dX8_numberIn_75 : decode cX8_numberIn 75 = .ok (.istore 4, 2) := by decide +kernel
theorem dX8_numberIn_77 : decode cX8_numberIn 77 = .ok (.iload 4, 2) := by decide +kernel
theorem dX8_numberIn_79 : decode cX8_numberIn 79 = .ok (.ifCond .eq 11, 3) := by decide +kernel
theorem dX8_numberIn_82 : decode cX8_numberIn 82 = .ok (.iload_n 3, 1) := by decide +kernel
theorem dX8_numberIn_83 : decode cX8_numberIn 83 = .ok (.iconst (-1), 1) := by decide +kernel
theorem dX8_numberIn_84 : decode cX8_numberIn 84 = .ok (.iload_n 2, 1) := by decide +kernel
theorem dX8_numberIn_85 : decode cX8_numberIn 85 = .ok (.ishl, 1) := by decide +kernel
theorem dX8_numberIn_86 : decode cX8_numberIn 86 = .ok (.ior, 1) := by decide +kernel
theorem dX8_numberIn_87 : decode cX8_numberIn 87 = .ok (.goto 4, 3) := by decide +kernel
theorem dX8_numberIn_90 : decode cX8_numberIn 90 = .ok (.iload_n 3, 1) := by decide +kernel
theorem dX8_numberIn_91 : decode cX8_numberIn 91 = .ok (.ireturn, 1) := by decide +kernel
theorem dX8_isInRange_0 : decode cX8_isInRange 0 = .ok (.iload_n 2, 1) := by decide +kernel
theorem dX8_isInRange_1 : decode cX8_isInRange 1 = .ok (.aload_n 0, 1) := by decide +kernel
theorem dX8_isInRange_2 : decode cX8_isInRange 2 = .ok (.iload_n 1, 1) := by decide +kernel
theorem dX8_isInRange_3 : decode cX8_isInRange 3 = .ok (.iconst 4, 1) := by decide +kernel
theorem dX8_isInRange_4 : decode cX8_isInRange 4 = .ok (.invokevirtual 173, 3) := by decide +kernel
theorem dX8_isInRange_7 : decode cX8_isInRange 7 = .ok (.aload_n 0, 1) := by decide +kernel
theorem dX8_isInRange_8 : decode cX8_isInRange 8 = .ok (.iload_n 1, 1) := by decide +kernel
theorem dX8_isInRange_9 : decode cX8_isInRange 9 = .ok (.iconst 5, 1) := by decide +kernel
theorem dX8_isInRange_10 : decode cX8_isInRange 10 = .ok (.invokevirtual 173, 3) := by decide +kernel
theorem dX8_isInRange_13 : decode cX8_isInRange 13 = .ok (.invokestatic 60, 3) := by decide +kernel
theorem dX8_isInRange_16 : decode cX8_isInRange 16 = .ok (.ireturn, 1) := by decide +kernel
theorem dX8_tell_0 : decode cX8_tell 0 = .ok (.sipush 2517, 3) := by decide +kernel
theorem dX8_tell_3 : decode cX8_tell 3 = .ok (.iconst 3, 1) := by decide +kernel
theorem dX8_tell_4 : decode cX8_tell 4 = .ok (.aload_n 0, 1) := by decide +kernel
theorem dX8_tell_5 : decode cX8_tell 5 = .ok (.getfield 7, 3) := by decide +kernel
theorem dX8_tell_8 : decode cX8_tell 8 = .ok (.sipush 3289, 3) := by decide +kernel
theorem dX8_tell_11 : decode cX8_tell 11 = .ok (.iaload, 1) := by decide +kernel
theorem dX8_tell_12 : decode cX8_tell 12 = .ok (.imul, 1) := by decide +kernel
theorem dX8_tell_13 : decode cX8_tell 13 = .ok (.iadd, 1) := by decide +kernel
theorem dX8_tell_14 : decode cX8_tell 14 = .ok (.istore 4, 2) := by decide +kernel
theorem dX8_tell_16 : decode cX8_tell 16 = .ok (.aload_n 0, 1) := by decide +kernel
theorem dX8_tell_17 : decode cX8_tell 17 = .ok (.getfield 7, 3) := by decide +kernel
theorem dX8_tell_20 : decode cX8_tell 20 = .ok (.iload 4, 2) := by decide +kernel
theorem dX8_tell_22 : decode cX8_tell 22 = .ok (.iload_n 1, 1) := by decide +kernel
theorem dX8_tell_23 : decode cX8_tell 23 = .ok (.iastore, 1) := by decide +kernel
theorem dX8_tell_24 : decode cX8_tell 24 = .ok (.aload_n 0, 1) := by decide +kernel
theorem dX8_tell_25 : decode cX8_tell 25 = .ok (.getfield 7, 3) := by decide +kernel
theorem dX8_tell_28 : decode cX8_tell 28 = .ok (.iload 4, 2) := by decide +kernel
theorem dX8_tell_30 : decode cX8_tell 30 = .ok (.iconst 1, 1) := by decide +kernel
theorem dX8_tell_31 : decode cX8_tell 31 = .ok (.iadd, 1) := by decide +kernel
theorem dX8_tell_32 : decode cX8_tell 32 = .ok (.iload_n 2, 1) := by decide +kernel
theorem dX8_tell_33 : decode cX8_tell 33 = .ok (.iastore, 1) := by decide +kernel
theorem dX8_tell_34 : decode cX8_tell 34 = .ok (.aload_n 0, 1) := by decide +kernel
theorem dX8_tell_35 : decode cX8_tell 35 = .ok (.getfield 7, 3) := by decide +kernel
theorem dX8_tell_38 : decode cX8_tell 38 = .ok (.iload 4, 2) := by decide +kernel
theorem dX8_tell_40 : decode cX8_tell 40 = .ok (.iconst 2, 1) := by decide +kernel
theorem dX8_tell_41 : decode cX8_tell 41 = .ok (.iadd, 1) := by decide +kernel
theorem dX8_tell_42 : decode cX8_tell 42 = .ok (.iload_n 3, 1) := by decide +kernel
theorem dX8_tell_43 : decode cX8_tell 43 = .ok (.iastore, 1) := by decide +kernel
theorem dX8_tell_44 : decode cX8_tell 44 = .ok (.aload_n 0, 1) := by decide +kernel
theorem dX8_tell_45 : decode cX8_tell 45 = .ok (.getfield 7, 3) := by decide +kernel
theorem dX8_tell_48 : decode cX8_tell 48 = .ok (.sipush 3289, 3) := by decide +kernel
theorem dX8_tell_51 : decode cX8_tell 51 = .ok (.dup2, 1) := by decide +kernel
theorem dX8_tell_52 : decode cX8_tell 52 = .ok (.iaload, 1) := by decide +kernel
theorem dX8_tell_53 : decode cX8_tell 53 = .ok (.iconst 1, 1) := by decide +kernel
theorem dX8_tell_54 : decode cX8_tell 54 = .ok (.iadd, 1) := by decide +kernel
theorem dX8_tell_55 : decode cX8_tell 55 = .ok (.iastore, 1) := by decide +kernel
theorem dX8_tell_56 : decode cX8_tell 56 = .ok (.return_, 1) := by decide +kernel
theorem dX8_comeValue_0 : decode cX8_comeValue 0 = .ok (.aload_n 0, 1) := by decide +kernel
theorem dX8_comeValue_1 : decode cX8_comeValue 1 = .ok (.iload_n 1, 1) := by decide +kernel
theorem dX8_comeValue_2 : decode cX8_comeValue 2 = .ok (.invokevirtual 184, 3) := by decide +kernel
theorem dX8_comeValue_5 : decode cX8_comeValue 5 = .ok (.istore_n 2, 1) := by decide +kernel
theorem dX8_comeValue_6 : decode cX8_comeValue 6 = .ok (.aload_n 0, 1) := by decide +kernel
theorem dX8_comeValue_7 : decode cX8_comeValue 7 = .ok (.iload_n 1, 1) := by decide +kernel
theorem dX8_comeValue_8 : decode cX8_comeValue 8 = .ok (.iload_n 2, 1) := by decide +kernel
theorem dX8_comeValue_9 : decode cX8_comeValue 9 = .ok (.invokevirtual 187, 3) := by decide +kernel
theorem dX8_comeValue_12 : decode cX8_comeValue 12 = .ok (.ifCond .ne 4, 3) := by decide +kernel
theorem dX8_comeValue_15 : decode cX8_comeValue 15 = .ok (.return_, 1) := by decide +kernel
theorem dX8_comeValue_16 : decode cX8_comeValue 16 = .ok (.aload_n 0, 1) := by decide +kernel
theorem dX8_comeValue_17 : decode cX8_comeValue 17 = .ok (.iload_n 1, 1) := by decide +kernel
theorem dX8_comeValue_18 : decode cX8_comeValue 18 = .ok (.bipush 7, 2) := by decide +kernel
theorem dX8_comeValue_20 : decode cX8_comeValue 20 = .ok (.invokevirtual 173, 3) := by decide +kernel
theorem dX8_comeValue_23 : decode cX8_comeValue 23 = .ok (.iconst 1, 1) := by decide +kernel
theorem dX8_comeValue_24 : decode cX8_comeValue 24 = .ok (.if_icmp .ne 7, 3) := by decide +kernel
theorem dX8_comeValue_27 : decode cX8_comeValue 27 = .ok (.iconst 1, 1) := by decide +kernel
theorem dX8_comeValue_28 : decode cX8_comeValue 28 = .ok (.goto 4, 3) := by decide +kernel
theorem dX8_comeValue_31 : decode cX8_comeValue 31 = .ok (.iconst 0, 1) := by decide +kernel
theorem dX8_comeValue_32 : decode cX8_comeValue 32 = .ok (.istore_n 3, 1) := by decide +kernel
theorem dX8_comeValue_33 : decode cX8_comeValue 33 = .ok (.iload_n 3, 1) := by decide +kernel
theorem dX8_comeValue_34 : decode cX8_comeValue 34 = .ok (.ifCond .eq 10, 3) := by decide +kernel
theorem dX8_comeValue_37 : decode cX8_comeValue 37 = .ok (.iload_n 2, 1) := by decide +kernel
theorem dX8_comeValue_38 : decode cX8_comeValue 38 = .ok (.ifCond .eq 30, 3) := by decide +kernel
theorem dX8_comeValue_41 : decode cX8_comeValue 41 = .ok (.goto 14, 3) := by decide +kernel
theorem dX8_comeValue_44 : decode cX8_comeValue 44 = .ok (.iload_n 2, 1) := by decide +kernel
theorem dX8_comeValue_45 : decode cX8_comeValue 45 = .ok (.aload_n 0, 1) := by decide +kernel
theorem dX8_comeValue_46 : decode cX8_comeValue 46 = .ok (.iload_n 1, 1) := by decide +kernel
theorem dX8_comeValue_47 : decode cX8_comeValue 47 = .ok (.bipush 12, 2) := by decide +kernel
theorem dX8_comeValue_49 : decode cX8_comeValue 49 = .ok (.invokevirtual 173, 3) := by decide +kernel
theorem dX8_comeValue_52 : decode cX8_comeValue 52 = .ok (.if_icmp .eq 16, 3) := by decide +kernel
theorem dX8_comeValue_55 : decode cX8_comeValue 55 = .ok (.aload_n 0, 1) := by decide +kernel
theorem dX8_comeValue_56 : decode cX8_comeValue 56 = .ok (.iload_n 1, 1) := by decide +kernel
theorem dX8_comeValue_57 : decode cX8_comeValue 57 = .ok (.aload_n 0, 1) := by decide +kernel
theorem dX8_comeValue_58 : decode cX8_comeValue 58 = .ok (.iload_n 1, 1) := by decide +kernel
theorem dX8_comeValue_59 : decode cX8_comeValue 59 = .ok (.bipush 10, 2) := by decide +kernel
theorem dX8_comeValue_61 : decode cX8_comeValue 61 = .ok (.invokevirtual 173, 3) := by decide +kernel
theorem dX8_comeValue_64 : decode cX8_comeValue 64 = .ok (.iload_n 2, 1) := by decide +kernel
theorem dX8_comeValue_65 : decode cX8_comeValue 65 = .ok (.invokevirtual 190, 3) := by decide +kernel
theorem dX8_comeValue_68 : decode cX8_comeValue 68 = .ok (.aload_n 0, 1) := by decide +kernel
theorem dX8_comeValue_69 : decode cX8_comeValue 69 = .ok (.getfield 7, 3) := by decide +kernel
theorem dX8_comeValue_72 : decode cX8_comeValue 72 = .ok (.bipush 96, 2) := by decide +kernel
theorem dX8_comeValue_74 : decode cX8_comeValue 74 = .ok (.bipush 14, 2) := by decide +kernel
theorem dX8_comeValue_76 : decode cX8_comeValue 76 = .ok (.iload_n 1, 1) := by decide +kernel
theorem dX8_comeValue_77 : decode cX8_comeValue 77 = .ok (.imul, 1) := by decide +kernel
theorem dX8_comeValue_78 : decode cX8_comeValue 78 = .ok (.iadd, 1) := by decide +kernel
theorem dX8_comeValue_79 : decode cX8_comeValue 79 = .ok (.bipush 12, 2) := by decide +kernel
theorem dX8_comeValue_81 : decode cX8_comeValue 81 = .ok (.iadd, 1) := by decide +kernel
theorem dX8_comeValue_82 : decode cX8_comeValue 82 = .ok (.iload_n 2, 1) := by decide +kernel
theorem dX8_comeValue_83 : decode cX8_comeValue 83 = .ok (.iastore, 1) := by decide +kernel
theorem dX8_comeValue_84 : decode cX8_comeValue 84 = .ok (.return_, 1) := by decide +kernel
theorem dX8_useAt_0 : decode cX8_useAt 0 = .ok (.aload_n 0, 1) := by decide +kernel
theorem dX8_useAt_1 : decode cX8_useAt 1 = .ok (.getfield 7, 3) := by decide +kernel
theorem dX8_useAt_4 : decode cX8_useAt 4 = .ok (.sipush 852, 3) := by decide +kernel
theorem dX8_useAt_7 : decode cX8_useAt 7 = .ok (.bipush 32, 2) := by decide +kernel
theorem dX8_useAt_9 : decode cX8_useAt 9 = .ok (.iload_n 1, 1) := by decide +kernel
theorem dX8_useAt_10 : decode cX8_useAt 10 = .ok (.imul, 1) := by decide +kernel
theorem dX8_useAt_11 : decode cX8_useAt 11 = .ok (.iadd, 1) := by decide +kernel
theorem dX8_useAt_12 : decode cX8_useAt 12 = .ok (.iload_n 2, 1) := by decide +kernel
theorem dX8_useAt_13 : decode cX8_useAt 13 = .ok (.iadd, 1) := by decide +kernel
theorem dX8_useAt_14 : decode cX8_useAt 14 = .ok (.iaload, 1) := by decide +kernel
theorem dX8_useAt_15 : decode cX8_useAt 15 = .ok (.ireturn, 1) := by decide +kernel
theorem dX8_firstPlace_0 : decode cX8_firstPlace 0 = .ok (.iconst 0, 1) := by decide +kernel
theorem dX8_firstPlace_1 : decode cX8_firstPlace 1 = .ok (.istore_n 3, 1) := by decide +kernel
theorem dX8_firstPlace_2 : decode cX8_firstPlace 2 = .ok (.aload_n 0, 1) := by decide +kernel
theorem dX8_firstPlace_3 : decode cX8_firstPlace 3 = .ok (.iload_n 1, 1) := by decide +kernel
theorem dX8_firstPlace_4 : decode cX8_firstPlace 4 = .ok (.iload_n 3, 1) := by decide +kernel
theorem dX8_firstPlace_5 : decode cX8_firstPlace 5 = .ok (.invokevirtual 193, 3) := by decide +kernel
theorem dX8_firstPlace_8 : decode cX8_firstPlace 8 = .ok (.aload_n 0, 1) := by decide +kernel
theorem dX8_firstPlace_9 : decode cX8_firstPlace 9 = .ok (.iload_n 1, 1) := by decide +kernel
theorem dX8_firstPlace_10 : decode cX8_firstPlace 10 = .ok (.iload_n 2, 1) := by decide +kernel
theorem dX8_firstPlace_11 : decode cX8_firstPlace 11 = .ok (.invokevirtual 193, 3) := by decide +kernel
theorem dX8_firstPlace_14 : decode cX8_firstPlace 14 = .ok (.if_icmp .eq 9, 3) := by decide +kernel
theorem dX8_firstPlace_17 : decode cX8_firstPlace 17 = .ok (.iinc 3 1, 3) := by decide +kernel
theorem dX8_firstPlace_20 : decode cX8_firstPlace 20 = .ok (.goto (-18), 3) := by decide +kernel
theorem dX8_firstPlace_23 : decode cX8_firstPlace 23 = .ok (.iload_n 3, 1) := by decide +kernel
theorem dX8_firstPlace_24 : decode cX8_firstPlace 24 = .ok (.ireturn, 1) := by decide +kernel
theorem dX8_tellAll_0 : decode cX8_tellAll 0 = .ok (.iload_n 3, 1) := by decide +kernel
theorem dX8_tellAll_1 : decode cX8_tellAll 1 = .ok (.istore 5, 2) := by decide +kernel
theorem dX8_tellAll_3 : decode cX8_tellAll 3 = .ok (.iload 5, 2) := by decide +kernel
theorem dX8_tellAll_5 : decode cX8_tellAll 5 = .ok (.ifCond .eq 100, 3) := by decide +kernel
theorem dX8_tellAll_8 : decode cX8_tellAll 8 = .ok (.bipush (-6), 2) := by decide +kernel
theorem dX8_tellAll_10 : decode cX8_tellAll 10 = .ok (.istore 6, 2) := by decide +kernel
theorem dX8_tellAll_12 : decode cX8_tellAll 12 = .ok (.iconst 0, 1) := by decide +kernel
theorem dX8_tellAll_13 : decode cX8_tellAll 13 = .ok (.istore 7, 2) := by decide +kernel
theorem dX8_tellAll_15 : decode cX8_tellAll 15 = .ok (.iload 7, 2) := by decide +kernel
theorem dX8_tellAll_17 : decode cX8_tellAll 17 = .ok (.aload_n 0, 1) := by decide +kernel
theorem dX8_tellAll_18 : decode cX8_tellAll 18 = .ok (.getfield 7, 3) := by decide +kernel
theorem dX8_tellAll_21 : decode cX8_tellAll 21 = .ok (.sipush 2388, 3) := by decide +kernel
theorem dX8_tellAll_24 : decode cX8_tellAll 24 = .ok (.iload_n 2, 1) := by decide +kernel
theorem dX8_tellAll_25 : decode cX8_tellAll 25 = .ok (.iadd, 1) := by decide +kernel
theorem dX8_tellAll_26 : decode cX8_tellAll 26 = .ok (.iaload, 1) := by decide +kernel
theorem dX8_tellAll_27 : decode cX8_tellAll 27 = .ok (.if_icmp .ge 50, 3) := by decide +kernel
theorem dX8_tellAll_30 : decode cX8_tellAll 30 = .ok (.iload 5, 2) := by decide +kernel
theorem dX8_tellAll_32 : decode cX8_tellAll 32 = .ok (.iload 7, 2) := by decide +kernel
theorem dX8_tellAll_34 : decode cX8_tellAll 34 = .ok (.invokestatic 196, 3) := by decide +kernel
theorem dX8_tellAll_37 : decode cX8_tellAll 37 = .ok (.ifCond .eq 30, 3) := by decide +kernel
theorem dX8_tellAll_40 : decode cX8_tellAll 40 = .ok (.iload 6, 2) := by decide +kernel
theorem dX8_tellAll_42 : decode cX8_tellAll 42 = .ok (.ifCond .lt 20, 3) := by decide +kernel
theorem dX8_tellAll_45 : decode cX8_tellAll 45 = .ok (.aload_n 0, 1) := by decide +kernel
theorem dX8_tellAll_46 : decode cX8_tellAll 46 = .ok (.iload_n 2, 1) := by decide +kernel
theorem dX8_tellAll_47 : decode cX8_tellAll 47 = .ok (.iload 7, 2) := by decide +kernel
theorem dX8_tellAll_49 : decode cX8_tellAll 49 = .ok (.invokevirtual 193, 3) := by decide +kernel
theorem dX8_tellAll_52 : decode cX8_tellAll 52 = .ok (.aload_n 0, 1) := by decide +kernel
theorem dX8_tellAll_53 : decode cX8_tellAll 53 = .ok (.iload_n 2, 1) := by decide +kernel
theorem dX8_tellAll_54 : decode cX8_tellAll 54 = .ok (.iload 6, 2) := by decide +kernel
theorem dX8_tellAll_56 : decode cX8_tellAll 56 = .ok (.invokevirtual 193, 3) := by decide +kernel
theorem dX8_tellAll_59 : decode cX8_tellAll 59 = .ok (.if_icmp .ge 8, 3) := by decide +kernel
theorem dX8_tellAll_62 : decode cX8_tellAll 62 = .ok (.iload 7, 2) := by decide +kernel
theorem dX8_tellAll_64 : decode cX8_tellAll 64 = .ok (.goto 5, 3) := by decide +kernel
theorem dX8_tellAll_67 : decode cX8_tellAll 67 = .ok (.iload 6, 2) := by decide +kernel
theorem dX8_tellAll_69 : decode cX8_tellAll 69 = .ok (.istore 6, 2) := by decide +kernel
theorem dX8_tellAll_71 : decode cX8_tellAll 71 = .ok (.iinc 7 1, 3) := by decide +kernel
theorem dX8_tellAll_74 : decode cX8_tellAll 74 = .ok (.goto (-59), 3) := by decide +kernel
theorem dX8_tellAll_77 : decode cX8_tellAll 77 = .ok (.aload_n 0, 1) := by decide +kernel
theorem dX8_tellAll_78 : decode cX8_tellAll 78 = .ok (.iload_n 1, 1) := by decide +kernel
theorem dX8_tellAll_79 : decode cX8_tellAll 79 = .ok (.aload_n 0, 1) := by decide +kernel
theorem dX8_tellAll_80 : decode cX8_tellAll 80 = .ok (.iload_n 2, 1) := by decide +kernel
theorem dX8_tellAll_81 : decode cX8_tellAll 81 = .ok (.iload 6, 2) := by decide +kernel
theorem dX8_tellAll_83 : decode cX8_tellAll 83 = .ok (.invokevirtual 193, 3) := by decide +kernel
theorem dX8_tellAll_86 : decode cX8_tellAll 86 = .ok (.iload 4, 2) := by decide +kernel
theorem dX8_tellAll_88 : decode cX8_tellAll 88 = .ok (.invokevirtual 190, 3) := by decide +kernel
theorem dX8_tellAll_91 : decode cX8_tellAll 91 = .ok (.iload 5, 2) := by decide +kernel
theorem dX8_tellAll_93 : decode cX8_tellAll 93 = .ok (.iconst 1, 1) := by decide +kernel
theorem dX8_tellAll_94 : decode cX8_tellAll 94 = .ok (.iload 6, 2) := by decide +kernel
theorem dX8_tellAll_96 : decode cX8_tellAll 96 = .ok (.ishl, 1) := by decide +kernel
theorem dX8_tellAll_97 : decode cX8_tellAll 97 = .ok (.iconst (-1), 1) := by decide +kernel
theorem dX8_tellAll_98 : decode cX8_tellAll 98 = .ok (.ixor, 1) := by decide +kernel
theorem dX8_tellAll_99 : decode cX8_tellAll 99 = .ok (.iand, 1) := by decide +kernel
theorem dX8_tellAll_100 : decode cX8_tellAll 100 = .ok (.istore 5, 2) := by decide +kernel
theorem dX8_tellAll_102 : decode cX8_tellAll 102 = .ok (.goto (-99), 3) := by decide +kernel
theorem dX8_tellAll_105 : decode cX8_tellAll 105 = .ok (.return_, 1) := by decide +kernel
theorem dX8_comeSlots_0 : decode cX8_comeSlots 0 = .ok (.aload_n 0, 1) := by decide +kernel
theorem dX8_comeSlots_1 : decode cX8_comeSlots 1 = .ok (.iload_n 1, 1) := by decide +kernel
theorem dX8_comeSlots_2 : decode cX8_comeSlots 2 = .ok (.bipush 9, 2) := by decide +kernel
theorem dX8_comeSlots_4 : decode cX8_comeSlots 4 = .ok (.invokevirtual 173, 3) := by decide +kernel
theorem dX8_comeSlots_7 : decode cX8_comeSlots 7 = .ok (.istore_n 2, 1) := by decide +kernel
theorem dX8_comeSlots_8 : decode cX8_comeSlots 8 = .ok (.iconst 0, 1) := by decide +kernel
theorem dX8_comeSlots_9 : decode cX8_comeSlots 9 = .ok (.istore_n 3, 1) := by decide +kernel
theorem dX8_comeSlots_10 : decode cX8_comeSlots 10 = .ok (.iload_n 1, 1) := by decide +kernel
theorem dX8_comeSlots_11 : decode cX8_comeSlots 11 = .ok (.istore 4, 2) := by decide +kernel
theorem dX8_comeSlots_13 : decode cX8_comeSlots 13 = .ok (.iload 4, 2) := by decide +kernel
theorem dX8_comeSlots_15 : decode cX8_comeSlots 15 = .ok (.aload_n 0, 1) := by decide +kernel
theorem dX8_comeSlots_16 : decode cX8_comeSlots 16 = .ok (.getfield 7, 3) := by decide +kernel
theorem dX8_comeSlots_19 : decode cX8_comeSlots 19 = .ok (.sipush 3286, 3) := by decide +kernel
theorem dX8_comeSlots_22 : decode cX8_comeSlots 22 = .ok (.iaload, 1) := by decide +kernel
theorem dX8_comeSlots_23 : decode cX8_comeSlots 23 = .ok (.if_icmp .ge 84, 3) := by decide +kernel
theorem dX8_comeSlots_26 : decode cX8_comeSlots 26 = .ok (.aload_n 0, 1) := by decide +kernel
theorem dX8_comeSlots_27 : decode cX8_comeSlots 27 = .ok (.iload 4, 2) := by decide +kernel
theorem dX8_comeSlots_29 : decode cX8_comeSlots 29 = .ok (.bipush 9, 2) := by decide +kernel
theorem dX8_comeSlots_31 : decode cX8_comeSlots 31 = .ok (.invokevirtual 173, 3) := by decide +kernel
theorem dX8_comeSlots_34 : decode cX8_comeSlots 34 = .ok (.iload_n 2, 1) := by decide +kernel
theorem dX8_comeSlots_35 : decode cX8_comeSlots 35 = .ok (.if_icmp .ne 72, 3) := by decide +kernel
theorem dX8_comeSlots_38 : decode cX8_comeSlots 38 = .ok (.aload_n 0, 1) := by decide +kernel
theorem dX8_comeSlots_39 : decode cX8_comeSlots 39 = .ok (.iload 4, 2) := by decide +kernel
theorem dX8_comeSlots_41 : decode cX8_comeSlots 41 = .ok (.invokevirtual 184, 3) := by decide +kernel
theorem dX8_comeSlots_44 : decode cX8_comeSlots 44 = .ok (.istore 5, 2) := by decide +kernel
theorem dX8_comeSlots_46 : decode cX8_comeSlots 46 = .ok (.iload 5, 2) := by decide +kernel
theorem dX8_comeSlots_48 : decode cX8_comeSlots 48 = .ok (.i2l, 1) := by decide +kernel
theorem dX8_comeSlots_49 : decode cX8_comeSlots 49 = .ok (.aload_n 0, 1) := by decide +kernel
theorem dX8_comeSlots_50 : decode cX8_comeSlots 50 = .ok (.iload 4, 2) := by decide +kernel
theorem dX8_comeSlots_52 : decode cX8_comeSlots 52 = .ok (.iconst 4, 1) := by decide +kernel
theorem dX8_comeSlots_53 : decode cX8_comeSlots 53 = .ok (.invokevirtual 173, 3) := by decide +kernel
theorem dX8_comeSlots_56 : decode cX8_comeSlots 56 = .ok (.i2l, 1) := by decide +kernel
theorem dX8_comeSlots_57 : decode cX8_comeSlots 57 = .ok (.lsub, 1) := by decide +kernel
theorem dX8_comeSlots_58 : decode cX8_comeSlots 58 = .ok (.lstore 6, 2) := by decide +kernel
theorem dX8_comeSlots_60 : decode cX8_comeSlots 60 = .ok (.aload_n 0, 1) := by decide +kernel
theorem dX8_comeSlots_61 : decode cX8_comeSlots 61 = .ok (.iload 4, 2) := by decide +kernel
theorem dX8_comeSlots_63 : decode cX8_comeSlots 63 = .ok (.iload 5, 2) := by decide +kernel
theorem dX8_comeSlots_65 : decode cX8_comeSlots 65 = .ok (.invokevirtual 187, 3) := by decide +kernel
theorem dX8_comeSlots_68 : decode cX8_comeSlots 68 = .ok (.ifCond .eq 33, 3) := by decide +kernel
theorem dX8_comeSlots_71 : decode cX8_comeSlots 71 = .ok (.lload 6, 2) := by decide +kernel
theorem dX8_comeSlots_73 : decode cX8_comeSlots 73 = .ok (.aload_n 0, 1) := by decide +kernel
theorem dX8_comeSlots_74 : decode cX8_comeSlots 74 = .ok (.getfield 7, 3) := by decide +kernel
theorem dX8_comeSlots_77 : decode cX8_comeSlots 77 = .ok (.sipush 2388, 3) := by decide +kernel
theorem dX8_comeSlots_80 : decode cX8_comeSlots 80 = .ok (.iload_n 2, 1) := by decide +kernel
theorem dX8_comeSlots_81 : decode cX8_comeSlots 81 = .ok (.iadd, 1) := by decide +kernel
theorem dX8_comeSlots_82 : decode cX8_comeSlots 82 = .ok (.iaload, 1) := by decide +kernel
theorem dX8_comeSlots_83 : decode cX8_comeSlots 83 = .ok (.i2l, 1) := by decide +kernel
theorem dX8_comeSlots_84 : decode cX8_comeSlots 84 = .ok (.lcmp, 1) := by decide +kernel
theorem dX8_comeSlots_85 : decode cX8_comeSlots 85 = .ok (.ifCond .ge 16, 3) := by decide +kernel
theorem dX8_comeSlots_88 : decode cX8_comeSlots 88 = .ok (.iload_n 3, 1) := by decide +kernel
theorem dX8_comeSlots_89 : decode cX8_comeSlots 89 = .ok (.iconst 1, 1) := by decide +kernel
theorem dX8_comeSlots_90 : decode cX8_comeSlots 90 = .ok (.aload_n 0, 1) := by decide +kernel
theorem dX8_comeSlots_91 : decode cX8_comeSlots 91 = .ok (.iload_n 2, 1) := by decide +kernel
theorem dX8_comeSlots_92 : decode cX8_comeSlots 92 = .ok (.lload 6, 2) := by decide +kernel
theorem dX8_comeSlots_94 : decode cX8_comeSlots 94 = .ok (.l2i, 1) := by decide +kernel
theorem dX8_comeSlots_95 : decode cX8_comeSlots 95 = .ok (.invokevirtual 199, 3) := by decide +kernel
theorem dX8_comeSlots_98 : decode cX8_comeSlots 98 = .ok (.ishl, 1) := by decide +kernel
theorem dX8_comeSlots_99 : decode cX8_comeSlots 99 = .ok (.ior, 1) := by decide +kernel
theorem dX8_comeSlots_100 : decode cX8_comeSlots 100 = .ok (.istore_n 3, 1) := by decide +kernel
theorem dX8_comeSlots_101 : decode cX8_comeSlots 101 = .ok (.iinc 4 1, 3) := by decide +kernel
theorem dX8_comeSlots_104 : decode cX8_comeSlots 104 = .ok (.goto (-91), 3) := by decide +kernel
theorem dX8_comeSlots_107 : decode cX8_comeSlots 107 = .ok (.aload_n 0, 1) := by decide +kernel
theorem dX8_comeSlots_108 : decode cX8_comeSlots 108 = .ok (.getfield 7, 3) := by decide +kernel
theorem dX8_comeSlots_111 : decode cX8_comeSlots 111 = .ok (.sipush 2436, 3) := by decide +kernel
theorem dX8_comeSlots_114 : decode cX8_comeSlots 114 = .ok (.iload_n 2, 1) := by decide +kernel
theorem dX8_comeSlots_115 : decode cX8_comeSlots 115 = .ok (.iadd, 1) := by decide +kernel
theorem dX8_comeSlots_116 : decode cX8_comeSlots 116 = .ok (.iaload, 1) := by decide +kernel
theorem dX8_comeSlots_117 : decode cX8_comeSlots 117 = .ok (.istore 4, 2) := by decide +kernel
theorem dX8_comeSlots_119 : decode cX8_comeSlots 119 = .ok (.aload_n 0, 1) := by decide +kernel
theorem dX8_comeSlots_120 : decode cX8_comeSlots 120 = .ok (.iload_n 1, 1) := by decide +kernel
theorem dX8_comeSlots_121 : decode cX8_comeSlots 121 = .ok (.iload_n 2, 1) := by decide +kernel
theorem dX8_comeSlots_122 : decode cX8_comeSlots 122 = .ok (.iload 4, 2) := by decide +kernel
theorem dX8_comeSlots_124 : decode cX8_comeSlots 124 = .ok (.iload_n 3, 1) := by decide +kernel
theorem dX8_comeSlots_125 : decode cX8_comeSlots 125 = .ok (.iconst (-1), 1) := by decide +kernel
theorem dX8_comeSlots_126 : decode cX8_comeSlots 126 = .ok (.ixor, 1) := by decide +kernel
theorem dX8_comeSlots_127 : decode cX8_comeSlots 127 = .ok (.iand, 1) := by decide +kernel
theorem dX8_comeSlots_128 : decode cX8_comeSlots 128 = .ok (.iconst 0, 1) := by decide +kernel
theorem dX8_comeSlots_129 : decode cX8_comeSlots 129 = .ok (.invokevirtual 202, 3) := by decide +kernel
theorem dX8_comeSlots_132 : decode cX8_comeSlots 132 = .ok (.aload_n 0, 1) := by decide +kernel
theorem dX8_comeSlots_133 : decode cX8_comeSlots 133 = .ok (.iload_n 1, 1) := by decide +kernel
theorem dX8_comeSlots_134 : decode cX8_comeSlots 134 = .ok (.iload_n 2, 1) := by decide +kernel
theorem dX8_comeSlots_135 : decode cX8_comeSlots 135 = .ok (.iload_n 3, 1) := by decide +kernel
theorem dX8_comeSlots_136 : decode cX8_comeSlots 136 = .ok (.iload 4, 2) := by decide +kernel
theorem dX8_comeSlots_138 : decode cX8_comeSlots 138 = .ok (.iconst (-1), 1) := by decide +kernel
theorem dX8_comeSlots_139 : decode cX8_comeSlots 139 = .ok (.ixor, 1) := by decide +kernel
theorem dX8_comeSlots_140 : decode cX8_comeSlots 140 = .ok (.iand, 1) := by decide +kernel
theorem dX8_comeSlots_141 : decode cX8_comeSlots 141 = .ok (.iconst 1, 1) := by decide +kernel
theorem dX8_comeSlots_142 : decode cX8_comeSlots 142 = .ok (.invokevirtual 202, 3) := by decide +kernel
theorem dX8_comeSlots_145 : decode cX8_comeSlots 145 = .ok (.aload_n 0, 1) := by decide +kernel
theorem dX8_comeSlots_146 : decode cX8_comeSlots 146 = .ok (.getfield 7, 3) := by decide +kernel
theorem dX8_comeSlots_149 : decode cX8_comeSlots 149 = .ok (.sipush 2436, 3) := by decide +kernel
theorem dX8_comeSlots_152 : decode cX8_comeSlots 152 = .ok (.iload_n 2, 1) := by decide +kernel
theorem dX8_comeSlots_153 : decode cX8_comeSlots 153 = .ok (.iadd, 1) := by decide +kernel
theorem dX8_comeSlots_154 : decode cX8_comeSlots 154 = .ok (.iload_n 3, 1) := by decide +kernel
theorem dX8_comeSlots_155 : decode cX8_comeSlots 155 = .ok (.iastore, 1) := by decide +kernel
theorem dX8_comeSlots_156 : decode cX8_comeSlots 156 = .ok (.return_, 1) := by decide +kernel
theorem dX8_isLetter_0 : decode cX8_isLetter 0 = .ok (.aload_n 0, 1) := by decide +kernel
theorem dX8_isLetter_1 : decode cX8_isLetter 1 = .ok (.getfield 7, 3) := by decide +kernel
theorem dX8_isLetter_4 : decode cX8_isLetter 4 = .ok (.sipush 3292, 3) := by decide +kernel
theorem dX8_isLetter_7 : decode cX8_isLetter 7 = .ok (.iaload, 1) := by decide +kernel
theorem dX8_isLetter_8 : decode cX8_isLetter 8 = .ok (.istore_n 1, 1) := by decide +kernel
theorem dX8_isLetter_9 : decode cX8_isLetter 9 = .ok (.aload_n 0, 1) := by decide +kernel
theorem dX8_isLetter_10 : decode cX8_isLetter 10 = .ok (.getfield 7, 3) := by decide +kernel
theorem dX8_isLetter_13 : decode cX8_isLetter 13 = .ok (.sipush 3288, 3) := by decide +kernel
theorem dX8_isLetter_16 : decode cX8_isLetter 16 = .ok (.iaload, 1) := by decide +kernel
theorem dX8_isLetter_17 : decode cX8_isLetter 17 = .ok (.ifCond .eq 21, 3) := by decide +kernel
theorem dX8_isLetter_20 : decode cX8_isLetter 20 = .ok (.iload_n 1, 1) := by decide +kernel
theorem dX8_isLetter_21 : decode cX8_isLetter 21 = .ok (.iconst 1, 1) := by decide +kernel
theorem dX8_isLetter_22 : decode cX8_isLetter 22 = .ok (.if_icmp .ne 18, 3) := by decide +kernel
theorem dX8_isLetter_25 : decode cX8_isLetter 25 = .ok (.aload_n 0, 1) := by decide +kernel
theorem dX8_isLetter_26 : decode cX8_isLetter 26 = .ok (.getfield 7, 3) := by decide +kernel
theorem dX8_isLetter_29 : decode cX8_isLetter 29 = .ok (.sipush 2484, 3) := by decide +kernel
theorem dX8_isLetter_32 : decode cX8_isLetter 32 = .ok (.iaload, 1) := by decide +kernel
theorem dX8_isLetter_33 : decode cX8_isLetter 33 = .ok (.bipush 15, 2) := by decide +kernel
theorem dX8_isLetter_35 : decode cX8_isLetter 35 = .ok (.if_icmp .le 5, 3) := by decide +kernel
theorem dX8_isLetter_38 : decode cX8_isLetter 38 = .ok (.iconst 0, 1) := by decide +kernel
theorem dX8_isLetter_39 : decode cX8_isLetter 39 = .ok (.ireturn, 1) := by decide +kernel
theorem dX8_isLetter_40 : decode cX8_isLetter 40 = .ok (.aload_n 0, 1) := by decide +kernel
theorem dX8_isLetter_41 : decode cX8_isLetter 41 = .ok (.getfield 7, 3) := by decide +kernel
theorem dX8_isLetter_44 : decode cX8_isLetter 44 = .ok (.sipush 804, 3) := by decide +kernel
theorem dX8_isLetter_47 : decode cX8_isLetter 47 = .ok (.iload_n 1, 1) := by decide +kernel
theorem dX8_isLetter_48 : decode cX8_isLetter 48 = .ok (.iconst 1, 1) := by decide +kernel
theorem dX8_isLetter_49 : decode cX8_isLetter 49 = .ok (.if_icmp .ne 14, 3) := by decide +kernel
theorem dX8_isLetter_52 : decode cX8_isLetter 52 = .ok (.aload_n 0, 1) := by decide +kernel
theorem dX8_isLetter_53 : decode cX8_isLetter 53 = .ok (.getfield 7, 3) := by decide +kernel
theorem dX8_isLetter_56 : decode cX8_isLetter 56 = .ok (.sipush 2484, 3) := by decide +kernel
theorem dX8_isLetter_59 : decode cX8_isLetter 59 = .ok (.iaload, 1) := by decide +kernel
theorem dX8_isLetter_60 : decode cX8_isLetter 60 = .ok (.goto 4, 3) := by decide +kernel
theorem dX8_isLetter_63 : decode cX8_isLetter 63 = .ok (.iconst 0, 1) := by decide +kernel
theorem dX8_isLetter_64 : decode cX8_isLetter 64 = .ok (.iadd, 1) := by decide +kernel
theorem dX8_isLetter_65 : decode cX8_isLetter 65 = .ok (.iaload, 1) := by decide +kernel
theorem dX8_isLetter_66 : decode cX8_isLetter 66 = .ok (.istore_n 2, 1) := by decide +kernel
theorem dX8_isLetter_67 : decode cX8_isLetter 67 = .ok (.iload_n 2, 1) := by decide +kernel
theorem dX8_isLetter_68 : decode cX8_isLetter 68 = .ok (.ifCond .le 27, 3) := by decide +kernel
theorem dX8_isLetter_71 : decode cX8_isLetter 71 = .ok (.aload_n 0, 1) := by decide +kernel
theorem dX8_isLetter_72 : decode cX8_isLetter 72 = .ok (.getfield 7, 3) := by decide +kernel
theorem dX8_isLetter_75 : decode cX8_isLetter 75 = .ok (.sipush 3288, 3) := by decide +kernel
theorem dX8_isLetter_78 : decode cX8_isLetter 78 = .ok (.iaload, 1) := by decide +kernel
theorem dX8_isLetter_79 : decode cX8_isLetter 79 = .ok (.iload_n 1, 1) := by decide +kernel
theorem dX8_isLetter_80 : decode cX8_isLetter 80 = .ok (.isub, 1) := by decide +kernel
theorem dX8_isLetter_81 : decode cX8_isLetter 81 = .ok (.iload_n 2, 1) := by decide +kernel
theorem dX8_isLetter_82 : decode cX8_isLetter 82 = .ok (.bipush 7, 2) := by decide +kernel
theorem dX8_isLetter_84 : decode cX8_isLetter 84 = .ok (.iadd, 1) := by decide +kernel
theorem dX8_isLetter_85 : decode cX8_isLetter 85 = .ok (.bipush 8, 2) := by decide +kernel
theorem dX8_isLetter_87 : decode cX8_isLetter 87 = .ok (.idiv, 1) := by decide +kernel
theorem dX8_isLetter_88 : decode cX8_isLetter 88 = .ok (.if_icmp .ne 7, 3) := by decide +kernel
theorem dX8_isLetter_91 : decode cX8_isLetter 91 = .ok (.iconst 1, 1) := by decide +kernel
theorem dX8_isLetter_92 : decode cX8_isLetter 92 = .ok (.goto 4, 3) := by decide +kernel
theorem dX8_isLetter_95 : decode cX8_isLetter 95 = .ok (.iconst 0, 1) := by decide +kernel
theorem dX8_isLetter_96 : decode cX8_isLetter 96 = .ok (.ireturn, 1) := by decide +kernel
theorem dX8_come_0 : decode cX8_come 0 = .ok (.aload_n 0, 1) := by decide +kernel
theorem dX8_come_1 : decode cX8_come 1 = .ok (.invokevirtual 206, 3) := by decide +kernel
theorem dX8_come_4 : decode cX8_come 4 = .ok (.ifCond .ne 15, 3) := by decide +kernel
theorem dX8_come_7 : decode cX8_come 7 = .ok (.aload_n 0, 1) := by decide +kernel
theorem dX8_come_8 : decode cX8_come 8 = .ok (.getfield 7, 3) := by decide +kernel
theorem dX8_come_11 : decode cX8_come 11 = .ok (.sipush 3288, 3) := by decide +kernel
theorem dX8_come_14 : decode cX8_come 14 = .ok (.iconst 0, 1) := by decide +kernel
theorem dX8_come_15 : decode cX8_come 15 = .ok (.iastore, 1) := by decide +kernel
theorem dX8_come_16 : decode cX8_come 16 = .ok (.bipush (-5), 2) := by decide +kernel
theorem dX8_come_18 : decode cX8_come 18 = .ok (.ireturn, 1) := by decide +kernel
theorem dX8_come_19 : decode cX8_come 19 = .ok (.aload_n 0, 1) := by decide +kernel
theorem dX8_come_20 : decode cX8_come 20 = .ok (.getfield 7, 3) := by decide +kernel
theorem dX8_come_23 : decode cX8_come 23 = .ok (.sipush 3292, 3) := by decide +kernel
theorem dX8_come_26 : decode cX8_come 26 = .ok (.iaload, 1) := by decide +kernel
theorem dX8_come_27 : decode cX8_come 27 = .ok (.iconst 1, 1) := by decide +kernel
theorem dX8_come_28 : decode cX8_come 28 = .ok (.if_icmp .ne 14, 3) := by decide +kernel
theorem dX8_come_31 : decode cX8_come 31 = .ok (.aload_n 0, 1) := by decide +kernel
theorem dX8_come_32 : decode cX8_come 32 = .ok (.getfield 7, 3) := by decide +kernel
theorem dX8_come_35 : decode cX8_come 35 = .ok (.sipush 2484, 3) := by decide +kernel
theorem dX8_come_38 : decode cX8_come 38 = .ok (.iaload, 1) := by decide +kernel
theorem dX8_come_39 : decode cX8_come 39 = .ok (.goto 4, 3) := by decide +kernel
theorem dX8_come_42 : decode cX8_come 42 = .ok (.iconst 0, 1) := by decide +kernel
theorem dX8_come_43 : decode cX8_come 43 = .ok (.istore_n 1, 1) := by decide +kernel
theorem dX8_come_44 : decode cX8_come 44 = .ok (.aload_n 0, 1) := by decide +kernel
theorem dX8_come_45 : decode cX8_come 45 = .ok (.getfield 7, 3) := by decide +kernel
theorem dX8_come_48 : decode cX8_come 48 = .ok (.sipush 3289, 3) := by decide +kernel
theorem dX8_come_51 : decode cX8_come 51 = .ok (.iaload, 1) := by decide +kernel
theorem dX8_come_52 : decode cX8_come 52 = .ok (.bipush 100, 2) := by decide +kernel
theorem dX8_come_54 : decode cX8_come 54 = .ok (.if_icmp .lt 6, 3) := by decide +kernel
theorem dX8_come_57 : decode cX8_come 57 = .ok (.bipush (-4), 2) := by decide +kernel
theorem dX8_come_59 : decode cX8_come 59 = .ok (.ireturn, 1) := by decide +kernel
theorem dX8_come_60 : decode cX8_come 60 = .ok (.aload_n 0, 1) := by decide +kernel
theorem dX8_come_61 : decode cX8_come 61 = .ok (.getfield 7, 3) := by decide +kernel
theorem dX8_come_64 : decode cX8_come 64 = .ok (.sipush 3289, 3) := by decide +kernel
theorem dX8_come_67 : decode cX8_come 67 = .ok (.iaload, 1) := by decide +kernel
theorem dX8_come_68 : decode cX8_come 68 = .ok (.istore_n 2, 1) := by decide +kernel
theorem dX8_come_69 : decode cX8_come 69 = .ok (.iconst 0, 1) := by decide +kernel
theorem dX8_come_70 : decode cX8_come 70 = .ok (.istore_n 3, 1) := by decide +kernel
theorem dX8_come_71 : decode cX8_come 71 = .ok (.iload_n 3, 1) := by decide +kernel
theorem dX8_come_72 : decode cX8_come 72 = .ok (.aload_n 0, 1) := by decide +kernel
theorem dX8_come_73 : decode cX8_come 73 = .ok (.getfield 7, 3) := by decide +kernel
theorem dX8_come_76 : decode cX8_come 76 = .ok (.sipush 3286, 3) := by decide +kernel
theorem dX8_come_79 : decode cX8_come 79 = .ok (.iaload, 1) := by decide +kernel
theorem dX8_come_80 : decode cX8_come 80 = .ok (.if_icmp .ge 74, 3) := by decide +kernel
theorem dX8_come_83 : decode cX8_come 83 = .ok (.aload_n 0, 1) := by decide +kernel
theorem dX8_come_84 : decode cX8_come 84 = .ok (.iload_n 3, 1) := by decide +kernel
theorem dX8_come_85 : decode cX8_come 85 = .ok (.iconst 0, 1) := by decide +kernel
theorem dX8_come_86 : decode cX8_come 86 = .ok (.invokevirtual 173, 3) := by decide +kernel
theorem dX8_come_89 : decode cX8_come 89 = .ok (.ifCond .ne 59, 3) := by decide +kernel
theorem dX8_come_92 : decode cX8_come 92 = .ok (.aload_n 0, 1) := by decide +kernel
theorem dX8_come_93 : decode cX8_come 93 = .ok (.iload_n 3, 1) := by decide +kernel
theorem dX8_come_94 : decode cX8_come 94 = .ok (.iconst 1, 1) := by decide +kernel
theorem dX8_come_95 : decode cX8_come 95 = .ok (.invokevirtual 173, 3) := by decide +kernel
theorem dX8_come_98 : decode cX8_come 98 = .ok (.iload_n 1, 1) := by decide +kernel
theorem dX8_come_99 : decode cX8_come 99 = .ok (.if_icmp .ne 49, 3) := by decide +kernel
theorem dX8_come_102 : decode cX8_come 102 = .ok (.aload_n 0, 1) := by decide +kernel
theorem dX8_come_103 : decode cX8_come 103 = .ok (.iload_n 3, 1) := by decide +kernel
theorem dX8_come_104 : decode cX8_come 104 = .ok (.bipush 6, 2) := by decide +kernel
theorem dX8_come_106 : decode cX8_come 106 = .ok (.invokevirtual 173, 3) := by decide +kernel
theorem dX8_come_109 : decode cX8_come 109 = .ok (.ifCond .ne 11, 3) := by decide +kernel
theorem dX8_come_112 : decode cX8_come 112 = .ok (.aload_n 0, 1) := by decide +kernel
theorem dX8_come_113 : decode cX8_come 113 = .ok (.iload_n 3, 1) := by decide +kernel
theorem dX8_come_114 : decode cX8_come 114 = .ok (.invokevirtual 210, 3) := by decide +kernel
theorem dX8_come_117 : decode cX8_come 117 = .ok (.goto 31, 3) := by decide +kernel
theorem dX8_come_120 : decode cX8_come 120 = .ok (.iload_n 3, 1) := by decide +kernel
theorem dX8_come_121 : decode cX8_come 121 = .ok (.ifCond .eq 22, 3) := by decide +kernel
theorem dX8_come_124 : decode cX8_come 124 = .ok (.aload_n 0, 1) := by decide +kernel
theorem dX8_come_125 : decode cX8_come 125 = .ok (.iload_n 3, 1) := by decide +kernel
theorem dX8_come_126 : decode cX8_come 126 = .ok (.iconst 1, 1) := by decide +kernel
theorem dX8_come_127 : decode cX8_come 127 = .ok (.isub, 1) := by decide +kernel
theorem dX8_come_128 : decode cX8_come 128 = .ok (.bipush 9, 2) := by decide +kernel
theorem dX8_come_130 : decode cX8_come 130 = .ok (.invokevirtual 173, 3) := by decide +kernel
theorem dX8_come_133 : decode cX8_come 133 = .ok (.aload_n 0, 1) := by decide +kernel
theorem dX8_come_134 : decode cX8_come 134 = .ok (.iload_n 3, 1) := by decide +kernel
theorem dX8_come_135 : decode cX8_come 135 = .ok (.bipush 9, 2) := by decide +kernel
theorem dX8_come_137 : decode cX8_come 137 = .ok (.invokevirtual 173, 3) := by decide +kernel
theorem dX8_come_140 : decode cX8_come 140 = .ok (.if_icmp .eq 8, 3) := by decide +kernel
theorem dX8_come_143 : decode cX8_come 143 = .ok (.aload_n 0, 1) := by decide +kernel
theorem dX8_come_144 : decode cX8_come 144 = .ok (.iload_n 3, 1) := by decide +kernel
theorem dX8_come_145 : decode cX8_come 145 = .ok (.invokevirtual 214, 3) := by decide +kernel
theorem dX8_come_148 : decode cX8_come 148 = .ok (.iinc 3 1, 3) := by decide +kernel
theorem dX8_come_151 : decode cX8_come 151 = .ok (.goto (-80), 3) := by decide +kernel
theorem dX8_come_154 : decode cX8_come 154 = .ok (.aload_n 0, 1) := by decide +kernel
theorem dX8_come_155 : decode cX8_come 155 = .ok (.getfield 7, 3) := by decide +kernel
theorem dX8_come_158 : decode cX8_come 158 = .ok (.sipush 3288, 3) := by decide +kernel
theorem dX8_come_161 : decode cX8_come 161 = .ok (.iconst 0, 1) := by decide +kernel
theorem dX8_come_162 : decode cX8_come 162 = .ok (.iastore, 1) := by decide +kernel
theorem dX8_come_163 : decode cX8_come 163 = .ok (.aload_n 0, 1) := by decide +kernel
theorem dX8_come_164 : decode cX8_come 164 = .ok (.getfield 7, 3) := by decide +kernel
theorem dX8_come_167 : decode cX8_come 167 = .ok (.sipush 3290, 3) := by decide +kernel
theorem dX8_come_170 : decode cX8_come 170 = .ok (.dup2, 1) := by decide +kernel
theorem dX8_come_171 : decode cX8_come 171 = .ok (.iaload, 1) := by decide +kernel
theorem dX8_come_172 : decode cX8_come 172 = .ok (.iconst 1, 1) := by decide +kernel
theorem dX8_come_173 : decode cX8_come 173 = .ok (.iadd, 1) := by decide +kernel
theorem dX8_come_174 : decode cX8_come 174 = .ok (.iastore, 1) := by decide +kernel
theorem dX8_come_175 : decode cX8_come 175 = .ok (.aload_n 0, 1) := by decide +kernel
theorem dX8_come_176 : decode cX8_come 176 = .ok (.getfield 7, 3) := by decide +kernel
theorem dX8_come_179 : decode cX8_come 179 = .ok (.sipush 3289, 3) := by decide +kernel
theorem dX8_come_182 : decode cX8_come 182 = .ok (.iaload, 1) := by decide +kernel
theorem dX8_come_183 : decode cX8_come 183 = .ok (.iload_n 2, 1) := by decide +kernel
theorem dX8_come_184 : decode cX8_come 184 = .ok (.isub, 1) := by decide +kernel
theorem dX8_come_185 : decode cX8_come 185 = .ok (.ireturn, 1) := by decide +kernel
theorem dX8_event_0 : decode cX8_event 0 = .ok (.iload_n 1, 1) := by decide +kernel
theorem dX8_event_1 : decode cX8_event 1 = .ok (.iconst 0, 1) := by decide +kernel
theorem dX8_event_2 : decode cX8_event 2 = .ok (.iconst 2, 1) := by decide +kernel
theorem dX8_event_3 : decode cX8_event 3 = .ok (.invokestatic 60, 3) := by decide +kernel
theorem dX8_event_6 : decode cX8_event 6 = .ok (.ifCond .ne 6, 3) := by decide +kernel
theorem dX8_event_9 : decode cX8_event 9 = .ok (.bipush (-2), 2) := by decide +kernel
theorem dX8_event_11 : decode cX8_event 11 = .ok (.ireturn, 1) := by decide +kernel
theorem dX8_event_12 : decode cX8_event 12 = .ok (.aload_n 0, 1) := by decide +kernel
theorem dX8_event_13 : decode cX8_event 13 = .ok (.getfield 7, 3) := by decide +kernel
theorem dX8_event_16 : decode cX8_event 16 = .ok (.sipush 3289, 3) := by decide +kernel
theorem dX8_event_19 : decode cX8_event 19 = .ok (.iaload, 1) := by decide +kernel
theorem dX8_event_20 : decode cX8_event 20 = .ok (.ifCond .ne 8, 3) := by decide +kernel
theorem dX8_event_23 : decode cX8_event 23 = .ok (.bipush (-6), 2) := by decide +kernel
theorem dX8_event_25 : decode cX8_event 25 = .ok (.goto 13, 3) := by decide +kernel
theorem dX8_event_28 : decode cX8_event 28 = .ok (.aload_n 0, 1) := by decide +kernel
theorem dX8_event_29 : decode cX8_event 29 = .ok (.getfield 7, 3) := by decide +kernel
theorem dX8_event_32 : decode cX8_event 32 = .ok (.sipush 2517, 3) := by decide +kernel
theorem dX8_event_35 : decode cX8_event 35 = .ok (.iload_n 1, 1) := by decide +kernel
theorem dX8_event_36 : decode cX8_event 36 = .ok (.iadd, 1) := by decide +kernel
theorem dX8_event_37 : decode cX8_event 37 = .ok (.iaload, 1) := by decide +kernel
theorem dX8_event_38 : decode cX8_event 38 = .ok (.ireturn, 1) := by decide +kernel
theorem dX8_next_0 : decode cX8_next 0 = .ok (.aload_n 0, 1) := by decide +kernel
theorem dX8_next_1 : decode cX8_next 1 = .ok (.getfield 7, 3) := by decide +kernel
theorem dX8_next_4 : decode cX8_next 4 = .ok (.sipush 3289, 3) := by decide +kernel
theorem dX8_next_7 : decode cX8_next 7 = .ok (.iaload, 1) := by decide +kernel
theorem dX8_next_8 : decode cX8_next 8 = .ok (.ifCond .ne 6, 3) := by decide +kernel
theorem dX8_next_11 : decode cX8_next 11 = .ok (.bipush (-6), 2) := by decide +kernel
theorem dX8_next_13 : decode cX8_next 13 = .ok (.ireturn, 1) := by decide +kernel
theorem dX8_next_14 : decode cX8_next 14 = .ok (.aload_n 0, 1) := by decide +kernel
theorem dX8_next_15 : decode cX8_next 15 = .ok (.getfield 7, 3) := by decide +kernel
theorem dX8_next_18 : decode cX8_next 18 = .ok (.sipush 3289, 3) := by decide +kernel
theorem dX8_next_21 : decode cX8_next 21 = .ok (.dup2, 1) := by decide +kernel
theorem dX8_next_22 : decode cX8_next 22 = .ok (.iaload, 1) := by decide +kernel
theorem dX8_next_23 : decode cX8_next 23 = .ok (.iconst 1, 1) := by decide +kernel
theorem dX8_next_24 : decode cX8_next 24 = .ok (.isub, 1) := by decide +kernel
theorem dX8_next_25 : decode cX8_next 25 = .ok (.iastore, 1) := by decide +kernel
theorem dX8_next_26 : decode cX8_next 26 = .ok (.iconst 0, 1) := by decide +kernel
theorem dX8_next_27 : decode cX8_next 27 = .ok (.istore_n 1, 1) := by decide +kernel
theorem dX8_next_28 : decode cX8_next 28 = .ok (.iload_n 1, 1) := by decide +kernel
theorem dX8_next_29 : decode cX8_next 29 = .ok (.iconst 3, 1) := by decide +kernel
theorem dX8_next_30 : decode cX8_next 30 = .ok (.aload_n 0, 1) := by decide +kernel
theorem dX8_next_31 : decode cX8_next 31 = .ok (.getfield 7, 3) := by decide +kernel
theorem dX8_next_34 : decode cX8_next 34 = .ok (.sipush 3289, 3) := by decide +kernel
theorem dX8_next_37 : decode cX8_next 37 = .ok (.iaload, 1) := by decide +kernel
theorem dX8_next_38 : decode cX8_next 38 = .ok (.imul, 1) := by decide +kernel
theorem dX8_next_39 : decode cX8_next 39 = .ok (.if_icmp .ge 31, 3) := by decide +kernel
theorem dX8_next_42 : decode cX8_next 42 = .ok (.aload_n 0, 1) := by decide +kernel
theorem dX8_next_43 : decode cX8_next 43 = .ok (.getfield 7, 3) := by decide +kernel
theorem dX8_next_46 : decode cX8_next 46 = .ok (.sipush 2517, 3) := by decide +kernel
theorem dX8_next_49 : decode cX8_next 49 = .ok (.iload_n 1, 1) := by decide +kernel
theorem dX8_next_50 : decode cX8_next 50 = .ok (.iadd, 1) := by decide +kernel
theorem dX8_next_51 : decode cX8_next 51 = .ok (.aload_n 0, 1) := by decide +kernel
theorem dX8_next_52 : decode cX8_next 52 = .ok (.getfield 7, 3) := by decide +kernel
theorem dX8_next_55 : decode cX8_next 55 = .ok (.sipush 2517, 3) := by decide +kernel
theorem dX8_next_58 : decode cX8_next 58 = .ok (.iload_n 1, 1) := by decide +kernel
theorem dX8_next_59 : decode cX8_next 59 = .ok (.iadd, 1) := by decide +kernel
theorem dX8_next_60 : decode cX8_next 60 = .ok (.iconst 3, 1) := by decide +kernel
theorem dX8_next_61 : decode cX8_next 61 = .ok (.iadd, 1) := by decide +kernel
theorem dX8_next_62 : decode cX8_next 62 = .ok (.iaload, 1) := by decide +kernel
theorem dX8_next_63 : decode cX8_next 63 = .ok (.iastore, 1) := by decide +kernel
theorem dX8_next_64 : decode cX8_next 64 = .ok (.iinc 1 1, 3) := by decide +kernel
theorem dX8_next_67 : decode cX8_next 67 = .ok (.goto (-39), 3) := by decide +kernel
theorem dX8_next_70 : decode cX8_next 70 = .ok (.aload_n 0, 1) := by decide +kernel
theorem dX8_next_71 : decode cX8_next 71 = .ok (.getfield 7, 3) := by decide +kernel
theorem dX8_next_74 : decode cX8_next 74 = .ok (.sipush 3289, 3) := by decide +kernel
theorem dX8_next_77 : decode cX8_next 77 = .ok (.iaload, 1) := by decide +kernel
theorem dX8_next_78 : decode cX8_next 78 = .ok (.ireturn, 1) := by decide +kernel
theorem dX8_last_0 : decode cX8_last 0 = .ok (.aload_n 0, 1) := by decide +kernel
theorem dX8_last_1 : decode cX8_last 1 = .ok (.iload_n 1, 1) := by decide +kernel
theorem dX8_last_2 : decode cX8_last 2 = .ok (.invokevirtual 170, 3) := by decide +kernel
theorem dX8_last_5 : decode cX8_last 5 = .ok (.ifCond .ne 5, 3) := by decide +kernel
theorem dX8_last_8 : decode cX8_last 8 = .ok (.iconst (-1), 1) := by decide +kernel
theorem dX8_last_9 : decode cX8_last 9 = .ok (.ireturn, 1) := by decide +kernel
theorem dX8_last_10 : decode cX8_last 10 = .ok (.aload_n 0, 1) := by decide +kernel
theorem dX8_last_11 : decode cX8_last 11 = .ok (.iload_n 1, 1) := by decide +kernel
theorem dX8_last_12 : decode cX8_last 12 = .ok (.bipush 6, 2) := by decide +kernel
theorem dX8_last_14 : decode cX8_last 14 = .ok (.invokevirtual 173, 3) := by decide +kernel
theorem dX8_last_17 : decode cX8_last 17 = .ok (.ifCond .ne 11, 3) := by decide +kernel
theorem dX8_last_20 : decode cX8_last 20 = .ok (.aload_n 0, 1) := by decide +kernel
theorem dX8_last_21 : decode cX8_last 21 = .ok (.iload_n 1, 1) := by decide +kernel
theorem dX8_last_22 : decode cX8_last 22 = .ok (.bipush 12, 2) := by decide +kernel
theorem dX8_last_24 : decode cX8_last 24 = .ok (.invokevirtual 173, 3) := by decide +kernel
theorem dX8_last_27 : decode cX8_last 27 = .ok (.ireturn, 1) := by decide +kernel
theorem dX8_last_28 : decode cX8_last 28 = .ok (.iconst 0, 1) := by decide +kernel
theorem dX8_last_29 : decode cX8_last 29 = .ok (.istore_n 2, 1) := by decide +kernel
theorem dX8_last_30 : decode cX8_last 30 = .ok (.iconst 0, 1) := by decide +kernel
theorem dX8_last_31 : decode cX8_last 31 = .ok (.istore_n 3, 1) := by decide +kernel
theorem dX8_last_32 : decode cX8_last 32 = .ok (.iload_n 3, 1) := by decide +kernel
theorem dX8_last_33 : decode cX8_last 33 = .ok (.bipush 32, 2) := by decide +kernel
theorem dX8_last_35 : decode cX8_last 35 = .ok (.if_icmp .ge 32, 3) := by decide +kernel
theorem dX8_last_38 : decode cX8_last 38 = .ok (.iload_n 2, 1) := by decide +kernel
theorem dX8_last_39 : decode cX8_last 39 = .ok (.aload_n 0, 1) := by decide +kernel
theorem dX8_last_40 : decode cX8_last 40 = .ok (.getfield 7, 3) := by decide +kernel
theorem dX8_last_43 : decode cX8_last 43 = .ok (.sipush 2436, 3) := by decide +kernel
theorem dX8_last_46 : decode cX8_last 46 = .ok (.aload_n 0, 1) := by decide +kernel
theorem dX8_last_47 : decode cX8_last 47 = .ok (.iload_n 1, 1) := by decide +kernel
theorem dX8_last_48 : decode cX8_last 48 = .ok (.bipush 9, 2) := by decide +kernel
theorem dX8_last_50 : decode cX8_last 50 = .ok (.invokevirtual 173, 3) := by decide +kernel
theorem dX8_last_53 : decode cX8_last 53 = .ok (.iadd, 1) := by decide +kernel
theorem dX8_last_54 : decode cX8_last 54 = .ok (.iaload, 1) := by decide +kernel
theorem dX8_last_55 : decode cX8_last 55 = .ok (.iload_n 3, 1) := by decide +kernel
theorem dX8_last_56 : decode cX8_last 56 = .ok (.ishr, 1) := by decide +kernel
theorem dX8_last_57 : decode cX8_last 57 = .ok (.iconst 1, 1) := by decide +kernel
theorem dX8_last_58 : decode cX8_last 58 = .ok (.iand, 1) := by decide +kernel
theorem dX8_last_59 : decode cX8_last 59 = .ok (.iadd, 1) := by decide +kernel
theorem dX8_last_60 : decode cX8_last 60 = .ok (.istore_n 2, 1) := by decide +kernel
theorem dX8_last_61 : decode cX8_last 61 = .ok (.iinc 3 1, 3) := by decide +kernel
theorem dX8_last_64 : decode cX8_last 64 = .ok (.goto (-32), 3) := by decide +kernel
theorem dX8_last_67 : decode cX8_last 67 = .ok (.iload_n 2, 1) := by decide +kernel
theorem dX8_last_68 : decode cX8_last 68 = .ok (.ireturn, 1) := by decide +kernel
theorem dX8_want_0 : decode cX8_want 0 = .ok (.aload_n 0, 1) := by decide +kernel
theorem dX8_want_1 : decode cX8_want 1 = .ok (.iload_n 1, 1) := by decide +kernel
theorem dX8_want_2 : decode cX8_want 2 = .ok (.invokevirtual 170, 3) := by decide +kernel
theorem dX8_want_5 : decode cX8_want 5 = .ok (.ifCond .ne 5, 3) := by decide +kernel
theorem dX8_want_8 : decode cX8_want 8 = .ok (.iconst (-1), 1) := by decide +kernel
theorem dX8_want_9 : decode cX8_want 9 = .ok (.ireturn, 1) := by decide +kernel
theorem dX8_want_10 : decode cX8_want 10 = .ok (.aload_n 0, 1) := by decide +kernel
theorem dX8_want_11 : decode cX8_want 11 = .ok (.iload_n 1, 1) := by decide +kernel
theorem dX8_want_12 : decode cX8_want 12 = .ok (.bipush 6, 2) := by decide +kernel
theorem dX8_want_14 : decode cX8_want 14 = .ok (.invokevirtual 173, 3) := by decide +kernel
theorem dX8_want_17 : decode cX8_want 17 = .ok (.iconst 1, 1) := by decide +kernel
theorem dX8_want_18 : decode cX8_want 18 = .ok (.if_icmp .eq 12, 3) := by decide +kernel
theorem dX8_want_21 : decode cX8_want 21 = .ok (.aload_n 0, 1) := by decide +kernel
theorem dX8_want_22 : decode cX8_want 22 = .ok (.iload_n 1, 1) := by decide +kernel
theorem dX8_want_23 : decode cX8_want 23 = .ok (.iconst 0, 1) := by decide +kernel
theorem dX8_want_24 : decode cX8_want 24 = .ok (.invokevirtual 173, 3) := by decide +kernel
theorem dX8_want_27 : decode cX8_want 27 = .ok (.ifCond .ne 6, 3) := by decide +kernel
theorem dX8_want_30 : decode cX8_want 30 = .ok (.bipush (-3), 2) := by decide +kernel
theorem dX8_want_32 : decode cX8_want 32 = .ok (.ireturn, 1) := by decide +kernel
theorem dX8_want_33 : decode cX8_want 33 = .ok (.aload_n 0, 1) := by decide +kernel
theorem dX8_want_34 : decode cX8_want 34 = .ok (.iload_n 1, 1) := by decide +kernel
theorem dX8_want_35 : decode cX8_want 35 = .ok (.iload_n 2, 1) := by decide +kernel
theorem dX8_want_36 : decode cX8_want 36 = .ok (.invokevirtual 187, 3) := by decide +kernel
theorem dX8_want_39 : decode cX8_want 39 = .ok (.ifCond .ne 6, 3) := by decide +kernel
theorem dX8_want_42 : decode cX8_want 42 = .ok (.bipush (-2), 2) := by decide +kernel
theorem dX8_want_44 : decode cX8_want 44 = .ok (.ireturn, 1) := by decide +kernel
theorem dX8_want_45 : decode cX8_want 45 = .ok (.aload_n 0, 1) := by decide +kernel
theorem dX8_want_46 : decode cX8_want 46 = .ok (.iload_n 1, 1) := by decide +kernel
theorem dX8_want_47 : decode cX8_want 47 = .ok (.bipush 13, 2) := by decide +kernel
theorem dX8_want_49 : decode cX8_want 49 = .ok (.invokevirtual 173, 3) := by decide +kernel
theorem dX8_want_52 : decode cX8_want 52 = .ok (.istore_n 3, 1) := by decide +kernel
theorem dX8_want_53 : decode cX8_want 53 = .ok (.aload_n 0, 1) := by decide +kernel
theorem dX8_want_54 : decode cX8_want 54 = .ok (.getfield 7, 3) := by decide +kernel
theorem dX8_want_57 : decode cX8_want 57 = .ok (.bipush 96, 2) := by decide +kernel
theorem dX8_want_59 : decode cX8_want 59 = .ok (.bipush 14, 2) := by decide +kernel
theorem dX8_want_61 : decode cX8_want 61 = .ok (.iload_n 1, 1) := by decide +kernel
theorem dX8_want_62 : decode cX8_want 62 = .ok (.imul, 1) := by decide +kernel
theorem dX8_want_63 : decode cX8_want 63 = .ok (.iadd, 1) := by decide +kernel
theorem dX8_want_64 : decode cX8_want 64 = .ok (.bipush 13, 2) := by decide +kernel
theorem dX8_want_66 : decode cX8_want 66 = .ok (.iadd, 1) := by decide +kernel
theorem dX8_want_67 : decode cX8_want 67 = .ok (.iload_n 2, 1) := by decide +kernel
theorem dX8_want_68 : decode cX8_want 68 = .ok (.iastore, 1) := by decide +kernel
theorem dX8_want_69 : decode cX8_want 69 = .ok (.iload_n 3, 1) := by decide +kernel
theorem dX8_want_70 : decode cX8_want 70 = .ok (.ireturn, 1) := by decide +kernel
theorem dX8_bitToDevice_0 : decode cX8_bitToDevice 0 = .ok (.iconst 0, 1) := by decide +kernel
theorem dX8_bitToDevice_1 : decode cX8_bitToDevice 1 = .ok (.istore 4, 2) := by decide +kernel
theorem dX8_bitToDevice_3 : decode cX8_bitToDevice 3 = .ok (.iconst 0, 1) := by decide +kernel
theorem dX8_bitToDevice_4 : decode cX8_bitToDevice 4 = .ok (.istore 5, 2) := by decide +kernel
theorem dX8_bitToDevice_6 : decode cX8_bitToDevice 6 = .ok (.iload 5, 2) := by decide +kernel
theorem dX8_bitToDevice_8 : decode cX8_bitToDevice 8 = .ok (.aload_n 0, 1) := by decide +kernel
theorem dX8_bitToDevice_9 : decode cX8_bitToDevice 9 = .ok (.getfield 7, 3) := by decide +kernel
theorem dX8_bitToDevice_12 : decode cX8_bitToDevice 12 = .ok (.sipush 3286, 3) := by decide +kernel
theorem dX8_bitToDevice_15 : decode cX8_bitToDevice 15 = .ok (.iaload, 1) := by decide +kernel
theorem dX8_bitToDevice_16 : decode cX8_bitToDevice 16 = .ok (.if_icmp .ge 89, 3) := by decide +kernel
theorem dX8_bitToDevice_19 : decode cX8_bitToDevice 19 = .ok (.aload_n 0, 1) := by decide +kernel
theorem dX8_bitToDevice_20 : decode cX8_bitToDevice 20 = .ok (.iload 5, 2) := by decide +kernel
theorem dX8_bitToDevice_22 : decode cX8_bitToDevice 22 = .ok (.iconst 2, 1) := by decide +kernel
theorem dX8_bitToDevice_23 : decode cX8_bitToDevice 23 = .ok (.invokevirtual 173, 3) := by decide +kernel
theorem dX8_bitToDevice_26 : decode cX8_bitToDevice 26 = .ok (.istore 6, 2) := by decide +kernel
theorem dX8_bitToDevice_28 : decode cX8_bitToDevice 28 = .ok (.aload_n 0, 1) := by decide +kernel
theorem dX8_bitToDevice_29 : decode cX8_bitToDevice 29 = .ok (.iload 5, 2) := by decide +kernel
theorem dX8_bitToDevice_31 : decode cX8_bitToDevice 31 = .ok (.iconst 0, 1) := by decide +kernel
theorem dX8_bitToDevice_32 : decode cX8_bitToDevice 32 = .ok (.invokevirtual 173, 3) := by decide +kernel
theorem dX8_bitToDevice_35 : decode cX8_bitToDevice 35 = .ok (.iload_n 1, 1) := by decide +kernel
theorem dX8_bitToDevice_36 : decode cX8_bitToDevice 36 = .ok (.if_icmp .ne 63, 3) := by decide +kernel
theorem dX8_bitToDevice_39 : decode cX8_bitToDevice 39 = .ok (.aload_n 0, 1) := by decide +kernel
theorem dX8_bitToDevice_40 : decode cX8_bitToDevice 40 = .ok (.iload 5, 2) := by decide +kernel
theorem dX8_bitToDevice_42 : decode cX8_bitToDevice 42 = .ok (.iconst 1, 1) := by decide +kernel
theorem dX8_bitToDevice_43 : decode cX8_bitToDevice 43 = .ok (.invokevirtual 173, 3) := by decide +kernel
theorem dX8_bitToDevice_46 : decode cX8_bitToDevice 46 = .ok (.iload_n 2, 1) := by decide +kernel
theorem dX8_bitToDevice_47 : decode cX8_bitToDevice 47 = .ok (.if_icmp .ne 52, 3) := by decide +kernel
theorem dX8_bitToDevice_50 : decode cX8_bitToDevice 50 = .ok (.aload_n 0, 1) := by decide +kernel
theorem dX8_bitToDevice_51 : decode cX8_bitToDevice 51 = .ok (.iload 5, 2) := by decide +kernel
theorem dX8_bitToDevice_53 : decode cX8_bitToDevice 53 = .ok (.bipush 6, 2) := by decide +kernel
theorem dX8_bitToDevice_55 : decode cX8_bitToDevice 55 = .ok (.invokevirtual 173, 3) := by decide +kernel
theorem dX8_bitToDevice_58 : decode cX8_bitToDevice 58 = .ok (.ifCond .ne 41, 3) := by decide +kernel
theorem dX8_bitToDevice_61 : decode cX8_bitToDevice 61 = .ok (.iload_n 3, 1) := by decide +kernel
theorem dX8_bitToDevice_62 : decode cX8_bitToDevice 62 = .ok (.iload 6, 2) := by decide +kernel
theorem dX8_bitToDevice_64 : decode cX8_bitToDevice 64 = .ok (.iload 6, 2) := by decide +kernel
theorem dX8_bitToDevice_66 : decode cX8_bitToDevice 66 = .ok (.aload_n 0, 1) := by decide +kernel
theorem dX8_bitToDevice_67 : decode cX8_bitToDevice 67 = .ok (.iload 5, 2) := by decide +kernel
theorem dX8_bitToDevice_69 : decode cX8_bitToDevice 69 = .ok (.iconst 3, 1) := by decide +kernel
theorem dX8_bitToDevice_70 : decode cX8_bitToDevice 70 = .ok (.invokevirtual 173, 3) := by decide +kernel
theorem dX8_bitToDevice_73 : decode cX8_bitToDevice 73 = .ok (.iadd, 1) := by decide +kernel
theorem dX8_bitToDevice_74 : decode cX8_bitToDevice 74 = .ok (.iconst 1, 1) := by decide +kernel
theorem dX8_bitToDevice_75 : decode cX8_bitToDevice 75 = .ok (.isub, 1) := by decide +kernel
theorem dX8_bitToDevice_76 : decode cX8_bitToDevice 76 = .ok (.invokestatic 60, 3) := by decide +kernel
theorem dX8_bitToDevice_79 : decode cX8_bitToDevice 79 = .ok (.ifCond .eq 20, 3) := by decide +kernel
theorem dX8_bitToDevice_82 : decode cX8_bitToDevice 82 = .ok (.aload_n 0, 1) := by decide +kernel
theorem dX8_bitToDevice_83 : decode cX8_bitToDevice 83 = .ok (.iload 5, 2) := by decide +kernel
theorem dX8_bitToDevice_85 : decode cX8_bitToDevice 85 = .ok (.bipush 13, 2) := by decide +kernel
theorem dX8_bitToDevice_87 : decode cX8_bitToDevice 87 = .ok (.invokevirtual 173, 3) := by decide +kernel
theorem dX8_bitToDevice_90 : decode cX8_bitToDevice 90 = .ok (.iload_n 3, 1) := by decide +kernel
theorem dX8_bitToDevice_91 : decode cX8_bitToDevice 91 = .ok (.iload 6, 2) := by decide +kernel
theorem dX8_bitToDevice_93 : decode cX8_bitToDevice 93 = .ok (.isub, 1) := by decide +kernel
theorem dX8_bitToDevice_94 : decode cX8_bitToDevice 94 = .ok (.ishr, 1) := by decide +kernel
theorem dX8_bitToDevice_95 : decode cX8_bitToDevice 95 = .ok (.iconst 1, 1) := by decide +kernel
theorem dX8_bitToDevice_96 : decode cX8_bitToDevice 96 = .ok (.iand, 1) := by decide +kernel
theorem dX8_bitToDevice_97 : decode cX8_bitToDevice 97 = .ok (.istore 4, 2) := by decide +kernel
theorem dX8_bitToDevice_99 : decode cX8_bitToDevice 99 = .ok (.iinc 5 1, 3) := by decide +kernel
theorem dX8_bitToDevice_102 : decode cX8_bitToDevice 102 = .ok (.goto (-96), 3) := by decide +kernel
theorem dX8_bitToDevice_105 : decode cX8_bitToDevice 105 = .ok (.iload 4, 2) := by decide +kernel
theorem dX8_bitToDevice_107 : decode cX8_bitToDevice 107 = .ok (.ireturn, 1) := by decide +kernel
theorem dX8_made_0 : decode cX8_made 0 = .ok (.iload_n 1, 1) := by decide +kernel
theorem dX8_made_1 : decode cX8_made 1 = .ok (.iconst 1, 1) := by decide +kernel
theorem dX8_made_2 : decode cX8_made 2 = .ok (.iconst 2, 1) := by decide +kernel
theorem dX8_made_3 : decode cX8_made 3 = .ok (.invokestatic 60, 3) := by decide +kernel
theorem dX8_made_6 : decode cX8_made 6 = .ok (.ifCond .eq 13, 3) := by decide +kernel
theorem dX8_made_9 : decode cX8_made 9 = .ok (.iload_n 2, 1) := by decide +kernel
theorem dX8_made_10 : decode cX8_made 10 = .ok (.iconst 0, 1) := by decide +kernel
theorem dX8_made_11 : decode cX8_made 11 = .ok (.bipush 15, 2) := by decide +kernel
theorem dX8_made_13 : decode cX8_made 13 = .ok (.invokestatic 60, 3) := by decide +kernel
theorem dX8_made_16 : decode cX8_made 16 = .ok (.ifCond .ne 6, 3) := by decide +kernel
theorem dX8_made_19 : decode cX8_made 19 = .ok (.bipush (-2), 2) := by decide +kernel
theorem dX8_made_21 : decode cX8_made 21 = .ok (.ireturn, 1) := by decide +kernel
theorem dX8_made_22 : decode cX8_made 22 = .ok (.aload_n 0, 1) := by decide +kernel
theorem dX8_made_23 : decode cX8_made 23 = .ok (.getfield 7, 3) := by decide +kernel
theorem dX8_made_26 : decode cX8_made 26 = .ok (.sipush 804, 3) := by decide +kernel
theorem dX8_made_29 : decode cX8_made 29 = .ok (.bipush 16, 2) := by decide +kernel
theorem dX8_made_31 : decode cX8_made 31 = .ok (.iload_n 1, 1) := by decide +kernel
theorem dX8_made_32 : decode cX8_made 32 = .ok (.imul, 1) := by decide +kernel
theorem dX8_made_33 : decode cX8_made 33 = .ok (.iadd, 1) := by decide +kernel
theorem dX8_made_34 : decode cX8_made 34 = .ok (.iload_n 2, 1) := by decide +kernel
theorem dX8_made_35 : decode cX8_made 35 = .ok (.iadd, 1) := by decide +kernel
theorem dX8_made_36 : decode cX8_made 36 = .ok (.iaload, 1) := by decide +kernel
theorem dX8_made_37 : decode cX8_made 37 = .ok (.istore 4, 2) := by decide +kernel
theorem dX8_made_39 : decode cX8_made 39 = .ok (.aload_n 0, 1) := by decide +kernel
theorem dX8_made_40 : decode cX8_made 40 = .ok (.getfield 7, 3) := by decide +kernel
theorem dX8_made_43 : decode cX8_made 43 = .ok (.sipush 3292, 3) := by decide +kernel
theorem dX8_made_46 : decode cX8_made 46 = .ok (.iaload, 1) := by decide +kernel
theorem dX8_made_47 : decode cX8_made 47 = .ok (.istore 5, 2) := by decide +kernel
theorem dX8_made_49 : decode cX8_made 49 = .ok (.iload 4, 2) := by decide +kernel
theorem dX8_made_51 : decode cX8_made 51 = .ok (.bipush 7, 2) := by decide +kernel
theorem dX8_made_53 : decode cX8_made 53 = .ok (.iadd, 1) := by decide +kernel
theorem dX8_made_54 : decode cX8_made 54 = .ok (.bipush 8, 2) := by decide +kernel
theorem dX8_made_56 : decode cX8_made 56 = .ok (.idiv, 1) := by decide +kernel
theorem dX8_made_57 : decode cX8_made 57 = .ok (.iload 5, 2) := by decide +kernel
theorem dX8_made_59 : decode cX8_made 59 = .ok (.iadd, 1) := by decide +kernel
theorem dX8_made_60 : decode cX8_made 60 = .ok (.istore 6, 2) := by decide +kernel
theorem dX8_made_62 : decode cX8_made 62 = .ok (.iload 4, 2) := by decide +kernel
theorem dX8_made_64 : decode cX8_made 64 = .ok (.ifCond .eq 15, 3) := by decide +kernel
theorem dX8_made_67 : decode cX8_made 67 = .ok (.iload_n 3, 1) := by decide +kernel
theorem dX8_made_68 : decode cX8_made 68 = .ok (.iconst (-1), 1) := by decide +kernel
theorem dX8_made_69 : decode cX8_made 69 = .ok (.iload 6, 2) := by decide +kernel
theorem dX8_made_71 : decode cX8_made 71 = .ok (.iconst 1, 1) := by decide +kernel
theorem dX8_made_72 : decode cX8_made 72 = .ok (.isub, 1) := by decide +kernel
theorem dX8_made_73 : decode cX8_made 73 = .ok (.invokestatic 60, 3) := by decide +kernel
theorem dX8_made_76 : decode cX8_made 76 = .ok (.ifCond .ne 6, 3) := by decide +kernel
theorem dX8_made_79 : decode cX8_made 79 = .ok (.bipush (-6), 2) := by decide +kernel
theorem dX8_made_81 : decode cX8_made 81 = .ok (.ireturn, 1) := by decide +kernel
theorem dX8_made_82 : decode cX8_made 82 = .ok (.iload_n 3, 1) := by decide +kernel
theorem dX8_made_83 : decode cX8_made 83 = .ok (.iconst (-1), 1) := by decide +kernel
theorem dX8_made_84 : decode cX8_made 84 = .ok (.if_icmp .ne 6, 3) := by decide +kernel
theorem dX8_made_87 : decode cX8_made 87 = .ok (.iload 6, 2) := by decide +kernel
theorem dX8_made_89 : decode cX8_made 89 = .ok (.ireturn, 1) := by decide +kernel
theorem dX8_made_90 : decode cX8_made 90 = .ok (.iload 5, 2) := by decide +kernel
theorem dX8_made_92 : decode cX8_made 92 = .ok (.iconst 1, 1) := by decide +kernel
theorem dX8_made_93 : decode cX8_made 93 = .ok (.if_icmp .ne 9, 3) := by decide +kernel
theorem dX8_made_96 : decode cX8_made 96 = .ok (.iload_n 3, 1) := by decide +kernel
theorem dX8_made_97 : decode cX8_made 97 = .ok (.ifCond .ne 5, 3) := by decide +kernel
theorem dX8_made_100 : decode cX8_made 100 = .ok (.iload_n 2, 1) := by decide +kernel
theorem dX8_made_101 : decode cX8_made 101 = .ok (.ireturn, 1) := by decide +kernel
theorem dX8_made_102 : decode cX8_made 102 = .ok (.iconst 0, 1) := by decide +kernel
theorem dX8_made_103 : decode cX8_made 103 = .ok (.istore 7, 2) := by decide +kernel
theorem dX8_made_105 : decode cX8_made 105 = .ok (.iconst 0, 1) := by decide +kernel
theorem dX8_made_106 : decode cX8_made 106 = .ok (.istore 8, 2) := by decide +kernel
theorem dX8_made_108 : decode cX8_made 108 = .ok (.iload 8, 2) := by decide +kernel
theorem dX8_made_110 : decode cX8_made 110 = .ok (.bipush 8, 2) := by decide +kernel
theorem dX8_made_112 : decode cX8_made 112 = .ok (.if_icmp .ge 33, 3) := by decide +kernel
theorem dX8_made_115 : decode cX8_made 115 = .ok (.iload 7, 2) := by decide +kernel
theorem dX8_made_117 : decode cX8_made 117 = .ok (.aload_n 0, 1) := by decide +kernel
theorem dX8_made_118 : decode cX8_made 118 = .ok (.iload_n 1, 1) := by decide +kernel
theorem dX8_made_119 : decode cX8_made 119 = .ok (.iload_n 2, 1) := by decide +kernel
theorem dX8_made_120 : decode cX8_made 120 = .ok (.bipush 8, 2) := by decide +kernel
theorem dX8_made_122 : decode cX8_made 122 = .ok (.iload_n 3, 1) := by decide +kernel
theorem dX8_made_123 : decode cX8_made 123 = .ok (.iload 5, 2) := by decide +kernel
theorem dX8_made_125 : decode cX8_made 125 = .ok (.isub, 1) := by decide +kernel
theorem dX8_made_126 : decode cX8_made 126 = .ok (.imul, 1) := by decide +kernel
theorem dX8_made_127 : decode cX8_made 127 = .ok (.iload 8, 2) := by decide +kernel
theorem dX8_made_129 : decode cX8_made 129 = .ok (.iadd, 1) := by decide +kernel
theorem dX8_made_130 : decode cX8_made 130 = .ok (.invokevirtual 217, 3) := by decide +kernel
theorem dX8_made_133 : decode cX8_made 133 = .ok (.iload 8, 2) := by decide +kernel
theorem dX8_made_135 : decode cX8_made 135 = .ok (.ishl, 1) := by decide +kernel
theorem dX8_made_136 : decode cX8_made 136 = .ok (.ior, 1) := by decide +kernel
theorem dX8_made_137 : decode cX8_made 137 = .ok (.istore 7, 2) := by decide +kernel
theorem dX8_made_139 : decode cX8_made 139 = .ok (.iinc 8 1, 3) := by decide +kernel
theorem dX8_made_142 : decode cX8_made 142 = .ok (.goto (-34), 3) := by decide +kernel
theorem dX8_made_145 : decode cX8_made 145 = .ok (.iload 7, 2) := by decide +kernel
theorem dX8_made_147 : decode cX8_made 147 = .ok (.ireturn, 1) := by decide +kernel
theorem dX8_count_0 : decode cX8_count 0 = .ok (.iload_n 1, 1) := by decide +kernel
theorem dX8_count_1 : decode cX8_count 1 = .ok (.tableswitch 140 0 7 #[47, 56, 65, 74, 83, 92, 101, 110], 47) := by decide +kernel
theorem dX8_count_48 : decode cX8_count 48 = .ok (.aload_n 0, 1) := by decide +kernel
theorem dX8_count_49 : decode cX8_count 49 = .ok (.getfield 7, 3) := by decide +kernel
theorem dX8_count_52 : decode cX8_count 52 = .ok (.sipush 3286, 3) := by decide +kernel
theorem dX8_count_55 : decode cX8_count 55 = .ok (.iaload, 1) := by decide +kernel
theorem dX8_count_56 : decode cX8_count 56 = .ok (.ireturn, 1) := by decide +kernel
theorem dX8_count_57 : decode cX8_count 57 = .ok (.aload_n 0, 1) := by decide +kernel
theorem dX8_count_58 : decode cX8_count 58 = .ok (.getfield 7, 3) := by decide +kernel
theorem dX8_count_61 : decode cX8_count 61 = .ok (.sipush 3287, 3) := by decide +kernel
theorem dX8_count_64 : decode cX8_count 64 = .ok (.iaload, 1) := by decide +kernel
theorem dX8_count_65 : decode cX8_count 65 = .ok (.ireturn, 1) := by decide +kernel
theorem dX8_count_66 : decode cX8_count 66 = .ok (.aload_n 0, 1) := by decide +kernel
theorem dX8_count_67 : decode cX8_count 67 = .ok (.getfield 7, 3) := by decide +kernel
theorem dX8_count_70 : decode cX8_count 70 = .ok (.sipush 3289, 3) := by decide +kernel
theorem dX8_count_73 : decode cX8_count 73 = .ok (.iaload, 1) := by decide +kernel
theorem dX8_count_74 : decode cX8_count 74 = .ok (.ireturn, 1) := by decide +kernel
theorem dX8_count_75 : decode cX8_count 75 = .ok (.aload_n 0, 1) := by decide +kernel
theorem dX8_count_76 : decode cX8_count 76 = .ok (.getfield 7, 3) := by decide +kernel
theorem dX8_count_79 : decode cX8_count 79 = .ok (.sipush 3285, 3) := by decide +kernel
theorem dX8_count_82 : decode cX8_count 82 = .ok (.iaload, 1) := by decide +kernel
theorem dX8_count_83 : decode cX8_count 83 = .ok (.ireturn, 1) := by decide +kernel
theorem dX8_count_84 : decode cX8_count 84 = .ok (.aload_n 0, 1) := by decide +kernel
theorem dX8_count_85 : decode cX8_count 85 = .ok (.getfield 7, 3) := by decide +kernel
theorem dX8_count_88 : decode cX8_count 88 = .ok (.sipush 3288, 3) := by decide +kernel
theorem dX8_count_91 : decode cX8_count 91 = .ok (.iaload, 1) := by decide +kernel
theorem dX8_count_92 : decode cX8_count 92 = .ok (.ireturn, 1) := by decide +kernel
theorem dX8_count_93 : decode cX8_count 93 = .ok (.aload_n 0, 1) := by decide +kernel
theorem dX8_count_94 : decode cX8_count 94 = .ok (.getfield 7, 3) := by decide +kernel
theorem dX8_count_97 : decode cX8_count 97 = .ok (.sipush 3290, 3) := by decide +kernel
theorem dX8_count_100 : decode cX8_count 100 = .ok (.iaload, 1) := by decide +kernel
theorem dX8_count_101 : decode cX8_count 101 = .ok (.ireturn, 1) := by decide +kernel
theorem dX8_count_102 : decode cX8_count 102 = .ok (.aload_n 0, 1) := by decide +kernel
theorem dX8_count_103 : decode cX8_count 103 = .ok (.getfield 7, 3) := by decide +kernel
theorem dX8_count_106 : decode cX8_count 106 = .ok (.sipush 3291, 3) := by decide +kernel
theorem dX8_count_109 : decode cX8_count 109 = .ok (.iaload, 1) := by decide +kernel
theorem dX8_count_110 : decode cX8_count 110 = .ok (.ireturn, 1) := by decide +kernel
theorem dX8_count_111 : decode cX8_count 111 = .ok (.aload_n 0, 1) := by decide +kernel
theorem dX8_count_112 : decode cX8_count 112 = .ok (.getfield 16, 3) := by decide +kernel
theorem dX8_count_115 : decode cX8_count 115 = .ok (.iconst 0, 1) := by decide +kernel
theorem dX8_count_116 : decode cX8_count 116 = .ok (.baload, 1) := by decide +kernel
theorem dX8_count_117 : decode cX8_count 117 = .ok (.ifCond .eq 7, 3) := by decide +kernel
theorem dX8_count_120 : decode cX8_count 120 = .ok (.iconst 1, 1) := by decide +kernel
theorem dX8_count_121 : decode cX8_count 121 = .ok (.goto 4, 3) := by decide +kernel
theorem dX8_count_124 : decode cX8_count 124 = .ok (.iconst 0, 1) := by decide +kernel
theorem dX8_count_125 : decode cX8_count 125 = .ok (.aload_n 0, 1) := by decide +kernel
theorem dX8_count_126 : decode cX8_count 126 = .ok (.getfield 16, 3) := by decide +kernel
theorem dX8_count_129 : decode cX8_count 129 = .ok (.iconst 1, 1) := by decide +kernel
theorem dX8_count_130 : decode cX8_count 130 = .ok (.baload, 1) := by decide +kernel
theorem dX8_count_131 : decode cX8_count 131 = .ok (.ifCond .eq 7, 3) := by decide +kernel
theorem dX8_count_134 : decode cX8_count 134 = .ok (.iconst 2, 1) := by decide +kernel
theorem dX8_count_135 : decode cX8_count 135 = .ok (.goto 4, 3) := by decide +kernel
theorem dX8_count_138 : decode cX8_count 138 = .ok (.iconst 0, 1) := by decide +kernel
theorem dX8_count_139 : decode cX8_count 139 = .ok (.iadd, 1) := by decide +kernel
theorem dX8_count_140 : decode cX8_count 140 = .ok (.ireturn, 1) := by decide +kernel
theorem dX8_count_141 : decode cX8_count 141 = .ok (.bipush (-2), 2) := by decide +kernel
theorem dX8_count_143 : decode cX8_count 143 = .ok (.ireturn, 1) := by decide +kernel
theorem dX8_image_0 : decode cX8_image 0 = .ok (.iload_n 1, 1) := by decide +kernel
theorem dX8_image_1 : decode cX8_image 1 = .ok (.iconst 0, 1) := by decide +kernel
theorem dX8_image_2 : decode cX8_image 2 = .ok (.iconst 1, 1) := by decide +kernel
theorem dX8_image_3 : decode cX8_image 3 = .ok (.invokestatic 60, 3) := by decide +kernel
theorem dX8_image_6 : decode cX8_image 6 = .ok (.ifCond .ne 6, 3) := by decide +kernel
theorem dX8_image_9 : decode cX8_image 9 = .ok (.bipush (-2), 2) := by decide +kernel
theorem dX8_image_11 : decode cX8_image 11 = .ok (.ireturn, 1) := by decide +kernel
theorem dX8_image_12 : decode cX8_image 12 = .ok (.iconst 0, 1) := by decide +kernel
theorem dX8_image_13 : decode cX8_image 13 = .ok (.istore_n 2, 1) := by decide +kernel
theorem dX8_image_14 : decode cX8_image 14 = .ok (.iload_n 2, 1) := by decide +kernel
theorem dX8_image_15 : decode cX8_image 15 = .ok (.sipush 3293, 3) := by decide +kernel
theorem dX8_image_18 : decode cX8_image 18 = .ok (.if_icmp .ge 27, 3) := by decide +kernel
theorem dX8_image_21 : decode cX8_image 21 = .ok (.aload_n 0, 1) := by decide +kernel
theorem dX8_image_22 : decode cX8_image 22 = .ok (.getfield 13, 3) := by decide +kernel
theorem dX8_image_25 : decode cX8_image 25 = .ok (.sipush 3293, 3) := by decide +kernel
theorem dX8_image_28 : decode cX8_image 28 = .ok (.iload_n 1, 1) := by decide +kernel
theorem dX8_image_29 : decode cX8_image 29 = .ok (.imul, 1) := by decide +kernel
theorem dX8_image_30 : decode cX8_image 30 = .ok (.iload_n 2, 1) := by decide +kernel
theorem dX8_image_31 : decode cX8_image 31 = .ok (.iadd, 1) := by decide +kernel
theorem dX8_image_32 : decode cX8_image 32 = .ok (.aload_n 0, 1) := by decide +kernel
theorem dX8_image_33 : decode cX8_image 33 = .ok (.getfield 7, 3) := by decide +kernel
theorem dX8_image_36 : decode cX8_image 36 = .ok (.iload_n 2, 1) := by decide +kernel
theorem dX8_image_37 : decode cX8_image 37 = .ok (.iaload, 1) := by decide +kernel
theorem dX8_image_38 : decode cX8_image 38 = .ok (.iastore, 1) := by decide +kernel
theorem dX8_image_39 : decode cX8_image 39 = .ok (.iinc 2 1, 3) := by decide +kernel
theorem dX8_image_42 : decode cX8_image 42 = .ok (.goto (-28), 3) := by decide +kernel
theorem dX8_image_45 : decode cX8_image 45 = .ok (.aload_n 0, 1) := by decide +kernel
theorem dX8_image_46 : decode cX8_image 46 = .ok (.getfield 16, 3) := by decide +kernel
theorem dX8_image_49 : decode cX8_image 49 = .ok (.iload_n 1, 1) := by decide +kernel
theorem dX8_image_50 : decode cX8_image 50 = .ok (.iconst 1, 1) := by decide +kernel
theorem dX8_image_51 : decode cX8_image 51 = .ok (.bastore, 1) := by decide +kernel
theorem dX8_image_52 : decode cX8_image 52 = .ok (.iconst 1, 1) := by decide +kernel
theorem dX8_image_53 : decode cX8_image 53 = .ok (.ireturn, 1) := by decide +kernel
theorem dX8_restore_0 : decode cX8_restore 0 = .ok (.iload_n 1, 1) := by decide +kernel
theorem dX8_restore_1 : decode cX8_restore 1 = .ok (.iconst 0, 1) := by decide +kernel
theorem dX8_restore_2 : decode cX8_restore 2 = .ok (.iconst 1, 1) := by decide +kernel
theorem dX8_restore_3 : decode cX8_restore 3 = .ok (.invokestatic 60, 3) := by decide +kernel
theorem dX8_restore_6 : decode cX8_restore 6 = .ok (.ifCond .ne 6, 3) := by decide +kernel
theorem dX8_restore_9 : decode cX8_restore 9 = .ok (.bipush (-2), 2) := by decide +kernel
theorem dX8_restore_11 : decode cX8_restore 11 = .ok (.ireturn, 1) := by decide +kernel
theorem dX8_restore_12 : decode cX8_restore 12 = .ok (.aload_n 0, 1) := by decide +kernel
theorem dX8_restore_13 : decode cX8_restore 13 = .ok (.getfield 16, 3) := by decide +kernel
theorem dX8_restore_16 : decode cX8_restore 16 = .ok (.iload_n 1, 1) := by decide +kernel
theorem dX8_restore_17 : decode cX8_restore 17 = .ok (.baload, 1) := by decide +kernel
theorem dX8_restore_18 : decode cX8_restore 18 = .ok (.ifCond .ne 6, 3) := by decide +kernel
theorem dX8_restore_21 : decode cX8_restore 21 = .ok (.bipush (-3), 2) := by decide +kernel
theorem dX8_restore_23 : decode cX8_restore 23 = .ok (.ireturn, 1) := by decide +kernel
theorem dX8_restore_24 : decode cX8_restore 24 = .ok (.iconst 0, 1) := by decide +kernel
theorem dX8_restore_25 : decode cX8_restore 25 = .ok (.istore_n 2, 1) := by decide +kernel
theorem dX8_restore_26 : decode cX8_restore 26 = .ok (.iload_n 2, 1) := by decide +kernel
theorem dX8_restore_27 : decode cX8_restore 27 = .ok (.sipush 3293, 3) := by decide +kernel
theorem dX8_restore_30 : decode cX8_restore 30 = .ok (.if_icmp .ge 27, 3) := by decide +kernel
theorem dX8_restore_33 : decode cX8_restore 33 = .ok (.aload_n 0, 1) := by decide +kernel
theorem dX8_restore_34 : decode cX8_restore 34 = .ok (.getfield 7, 3) := by decide +kernel
theorem dX8_restore_37 : decode cX8_restore 37 = .ok (.iload_n 2, 1) := by decide +kernel
theorem dX8_restore_38 : decode cX8_restore 38 = .ok (.aload_n 0, 1) := by decide +kernel
theorem dX8_restore_39 : decode cX8_restore 39 = .ok (.getfield 13, 3) := by decide +kernel
theorem dX8_restore_42 : decode cX8_restore 42 = .ok (.sipush 3293, 3) := by decide +kernel
theorem dX8_restore_45 : decode cX8_restore 45 = .ok (.iload_n 1, 1) := by decide +kernel
theorem dX8_restore_46 : decode cX8_restore 46 = .ok (.imul, 1) := by decide +kernel
theorem dX8_restore_47 : decode cX8_restore 47 = .ok (.iload_n 2, 1) := by decide +kernel
theorem dX8_restore_48 : decode cX8_restore 48 = .ok (.iadd, 1) := by decide +kernel
theorem dX8_restore_49 : decode cX8_restore 49 = .ok (.iaload, 1) := by decide +kernel
theorem dX8_restore_50 : decode cX8_restore 50 = .ok (.iastore, 1) := by decide +kernel
theorem dX8_restore_51 : decode cX8_restore 51 = .ok (.iinc 2 1, 3) := by decide +kernel
theorem dX8_restore_54 : decode cX8_restore 54 = .ok (.goto (-28), 3) := by decide +kernel
theorem dX8_restore_57 : decode cX8_restore 57 = .ok (.iconst 1, 1) := by decide +kernel
theorem dX8_restore_58 : decode cX8_restore 58 = .ok (.ireturn, 1) := by decide +kernel
