theorem dX7_say_0 : decode cX7_say 0 = .ok (.iload_n 1, 1) := by decide +kernel
theorem dX7_say_1 : decode cX7_say 1 = .ok (.iconst 0, 1) := by decide +kernel
theorem dX7_say_2 : decode cX7_say 2 = .ok (.sipush 255, 3) := by decide +kernel
theorem dX7_say_5 : decode cX7_say 5 = .ok (.invokestatic 40, 3) := by decide +kernel
theorem dX7_say_8 : decode cX7_say 8 = .ok (.ifCond .ne 6, 3) := by decide +kernel
theorem dX7_say_11 : decode cX7_say 11 = .ok (.bipush (-2), 2) := by decide +kernel
theorem dX7_say_13 : decode cX7_say 13 = .ok (.ireturn, 1) := by decide +kernel
theorem dX7_say_14 : decode cX7_say 14 = .ok (.aload_n 0, 1) := by decide +kernel
theorem dX7_say_15 : decode cX7_say 15 = .ok (.getfield 10, 3) := by decide +kernel
theorem dX7_say_18 : decode cX7_say 18 = .ok (.getfield 44, 3) := by decide +kernel
theorem dX7_say_21 : decode cX7_say 21 = .ok (.invokevirtual 48, 3) := by decide +kernel
theorem dX7_say_24 : decode cX7_say 24 = .ok (.bipush 96, 2) := by decide +kernel
theorem dX7_say_26 : decode cX7_say 26 = .ok (.if_icmp .lt 6, 3) := by decide +kernel
theorem dX7_say_29 : decode cX7_say 29 = .ok (.bipush (-4), 2) := by decide +kernel
theorem dX7_say_31 : decode cX7_say 31 = .ok (.ireturn, 1) := by decide +kernel
theorem dX7_say_32 : decode cX7_say 32 = .ok (.aload_n 0, 1) := by decide +kernel
theorem dX7_say_33 : decode cX7_say 33 = .ok (.getfield 10, 3) := by decide +kernel
theorem dX7_say_36 : decode cX7_say 36 = .ok (.getfield 44, 3) := by decide +kernel
theorem dX7_say_39 : decode cX7_say 39 = .ok (.iload_n 1, 1) := by decide +kernel
theorem dX7_say_40 : decode cX7_say 40 = .ok (.invokevirtual 54, 3) := by decide +kernel
theorem dX7_say_43 : decode cX7_say 43 = .ok (.aload_n 0, 1) := by decide +kernel
theorem dX7_say_44 : decode cX7_say 44 = .ok (.getfield 10, 3) := by decide +kernel
theorem dX7_say_47 : decode cX7_say 47 = .ok (.getfield 44, 3) := by decide +kernel
theorem dX7_say_50 : decode cX7_say 50 = .ok (.invokevirtual 48, 3) := by decide +kernel
theorem dX7_say_53 : decode cX7_say 53 = .ok (.ireturn, 1) := by decide +kernel
theorem dX7_wipe_0 : decode cX7_wipe 0 = .ok (.aload_n 0, 1) := by decide +kernel
theorem dX7_wipe_1 : decode cX7_wipe 1 = .ok (.getfield 10, 3) := by decide +kernel
theorem dX7_wipe_4 : decode cX7_wipe 4 = .ok (.getfield 44, 3) := by decide +kernel
theorem dX7_wipe_7 : decode cX7_wipe 7 = .ok (.invokevirtual 48, 3) := by decide +kernel
theorem dX7_wipe_10 : decode cX7_wipe 10 = .ok (.istore_n 1, 1) := by decide +kernel
theorem dX7_wipe_11 : decode cX7_wipe 11 = .ok (.aload_n 0, 1) := by decide +kernel
theorem dX7_wipe_12 : decode cX7_wipe 12 = .ok (.getfield 10, 3) := by decide +kernel
theorem dX7_wipe_15 : decode cX7_wipe 15 = .ok (.getfield 44, 3) := by decide +kernel
theorem dX7_wipe_18 : decode cX7_wipe 18 = .ok (.invokevirtual 58, 3) := by decide +kernel
theorem dX7_wipe_21 : decode cX7_wipe 21 = .ok (.iload_n 1, 1) := by decide +kernel
theorem dX7_wipe_22 : decode cX7_wipe 22 = .ok (.ireturn, 1) := by decide +kernel
theorem dX7_item_0 : decode cX7_item 0 = .ok (.iload_n 1, 1) := by decide +kernel
theorem dX7_item_1 : decode cX7_item 1 = .ok (.iconst 0, 1) := by decide +kernel
theorem dX7_item_2 : decode cX7_item 2 = .ok (.iconst 2, 1) := by decide +kernel
theorem dX7_item_3 : decode cX7_item 3 = .ok (.invokestatic 40, 3) := by decide +kernel
theorem dX7_item_6 : decode cX7_item 6 = .ok (.ifCond .eq 26, 3) := by decide +kernel
theorem dX7_item_9 : decode cX7_item 9 = .ok (.iload_n 2, 1) := by decide +kernel
theorem dX7_item_10 : decode cX7_item 10 = .ok (.iconst 0, 1) := by decide +kernel
theorem dX7_item_11 : decode cX7_item 11 = .ok (.bipush 15, 2) := by decide +kernel
theorem dX7_item_13 : decode cX7_item 13 = .ok (.invokestatic 40, 3) := by decide +kernel
theorem dX7_item_16 : decode cX7_item 16 = .ok (.ifCond .eq 16, 3) := by decide +kernel
theorem dX7_item_19 : decode cX7_item 19 = .ok (.iload_n 3, 1) := by decide +kernel
theorem dX7_item_20 : decode cX7_item 20 = .ok (.sipush (-32768), 3) := by decide +kernel
theorem dX7_item_23 : decode cX7_item 23 = .ok (.sipush 32767, 3) := by decide +kernel
theorem dX7_item_26 : decode cX7_item 26 = .ok (.invokestatic 40, 3) := by decide +kernel
theorem dX7_item_29 : decode cX7_item 29 = .ok (.ifCond .ne 6, 3) := by decide +kernel
theorem dX7_item_32 : decode cX7_item 32 = .ok (.bipush (-2), 2) := by decide +kernel
theorem dX7_item_34 : decode cX7_item 34 = .ok (.ireturn, 1) := by decide +kernel
theorem dX7_item_35 : decode cX7_item 35 = .ok (.iload_n 3, 1) := by decide +kernel
theorem dX7_item_36 : decode cX7_item 36 = .ok (.ifCond .ne 7, 3) := by decide +kernel
theorem dX7_item_39 : decode cX7_item 39 = .ok (.iconst 0, 1) := by decide +kernel
theorem dX7_item_40 : decode cX7_item 40 = .ok (.goto 19, 3) := by decide +kernel
theorem dX7_item_43 : decode cX7_item 43 = .ok (.iload_n 3, 1) := by decide +kernel
theorem dX7_item_44 : decode cX7_item 44 = .ok (.bipush (-128), 2) := by decide +kernel
theorem dX7_item_46 : decode cX7_item 46 = .ok (.bipush 127, 2) := by decide +kernel
theorem dX7_item_48 : decode cX7_item 48 = .ok (.invokestatic 40, 3) := by decide +kernel
theorem dX7_item_51 : decode cX7_item 51 = .ok (.ifCond .eq 7, 3) := by decide +kernel
theorem dX7_item_54 : decode cX7_item 54 = .ok (.iconst 1, 1) := by decide +kernel
theorem dX7_item_55 : decode cX7_item 55 = .ok (.goto 4, 3) := by decide +kernel
theorem dX7_item_58 : decode cX7_item 58 = .ok (.iconst 2, 1) := by decide +kernel
theorem dX7_item_59 : decode cX7_item 59 = .ok (.istore 4, 2) := by decide +kernel
theorem dX7_item_61 : decode cX7_item 61 = .ok (.aload_n 0, 1) := by decide +kernel
theorem dX7_item_62 : decode cX7_item 62 = .ok (.getfield 10, 3) := by decide +kernel
theorem dX7_item_65 : decode cX7_item 65 = .ok (.getfield 44, 3) := by decide +kernel
theorem dX7_item_68 : decode cX7_item 68 = .ok (.invokevirtual 48, 3) := by decide +kernel
theorem dX7_item_71 : decode cX7_item 71 = .ok (.iconst 1, 1) := by decide +kernel
theorem dX7_item_72 : decode cX7_item 72 = .ok (.iadd, 1) := by decide +kernel
theorem dX7_item_73 : decode cX7_item 73 = .ok (.iload 4, 2) := by decide +kernel
theorem dX7_item_75 : decode cX7_item 75 = .ok (.iadd, 1) := by decide +kernel
theorem dX7_item_76 : decode cX7_item 76 = .ok (.bipush 96, 2) := by decide +kernel
theorem dX7_item_78 : decode cX7_item 78 = .ok (.if_icmp .le 6, 3) := by decide +kernel
theorem dX7_item_81 : decode cX7_item 81 = .ok (.bipush (-4), 2) := by decide +kernel
theorem dX7_item_83 : decode cX7_item 83 = .ok (.ireturn, 1) := by decide +kernel
theorem dX7_item_84 : decode cX7_item 84 = .ok (.aload_n 0, 1) := by decide +kernel
theorem dX7_item_85 : decode cX7_item 85 = .ok (.getfield 10, 3) := by decide +kernel
theorem dX7_item_88 : decode cX7_item 88 = .ok (.getfield 44, 3) := by decide +kernel
theorem dX7_item_91 : decode cX7_item 91 = .ok (.iload_n 2, 1) := by decide +kernel
theorem dX7_item_92 : decode cX7_item 92 = .ok (.bipush 16, 2) := by decide +kernel
theorem dX7_item_94 : decode cX7_item 94 = .ok (.imul, 1) := by decide +kernel
theorem dX7_item_95 : decode cX7_item 95 = .ok (.iload_n 1, 1) := by decide +kernel
theorem dX7_item_96 : decode cX7_item 96 = .ok (.iconst 4, 1) := by decide +kernel
theorem dX7_item_97 : decode cX7_item 97 = .ok (.imul, 1) := by decide +kernel
theorem dX7_item_98 : decode cX7_item 98 = .ok (.iadd, 1) := by decide +kernel
theorem dX7_item_99 : decode cX7_item 99 = .ok (.iload 4, 2) := by decide +kernel
theorem dX7_item_101 : decode cX7_item 101 = .ok (.iadd, 1) := by decide +kernel
theorem dX7_item_102 : decode cX7_item 102 = .ok (.invokevirtual 54, 3) := by decide +kernel
theorem dX7_item_105 : decode cX7_item 105 = .ok (.iload 4, 2) := by decide +kernel
theorem dX7_item_107 : decode cX7_item 107 = .ok (.iconst 1, 1) := by decide +kernel
theorem dX7_item_108 : decode cX7_item 108 = .ok (.if_icmp .lt 18, 3) := by decide +kernel
theorem dX7_item_111 : decode cX7_item 111 = .ok (.aload_n 0, 1) := by decide +kernel
theorem dX7_item_112 : decode cX7_item 112 = .ok (.getfield 10, 3) := by decide +kernel
theorem dX7_item_115 : decode cX7_item 115 = .ok (.getfield 44, 3) := by decide +kernel
theorem dX7_item_118 : decode cX7_item 118 = .ok (.iload_n 3, 1) := by decide +kernel
theorem dX7_item_119 : decode cX7_item 119 = .ok (.sipush 255, 3) := by decide +kernel
theorem dX7_item_122 : decode cX7_item 122 = .ok (.iand, 1) := by decide +kernel
theorem dX7_item_123 : decode cX7_item 123 = .ok (.invokevirtual 54, 3) := by decide +kernel
theorem dX7_item_126 : decode cX7_item 126 = .ok (.iload 4, 2) := by decide +kernel
theorem dX7_item_128 : decode cX7_item 128 = .ok (.iconst 2, 1) := by decide +kernel
theorem dX7_item_129 : decode cX7_item 129 = .ok (.if_icmp .ne 21, 3) := by decide +kernel
theorem dX7_item_132 : decode cX7_item 132 = .ok (.aload_n 0, 1) := by decide +kernel
theorem dX7_item_133 : decode cX7_item 133 = .ok (.getfield 10, 3) := by decide +kernel
theorem dX7_item_136 : decode cX7_item 136 = .ok (.getfield 44, 3) := by decide +kernel
theorem dX7_item_139 : decode cX7_item 139 = .ok (.iload_n 3, 1) := by decide +kernel
theorem dX7_item_140 : decode cX7_item 140 = .ok (.bipush 8, 2) := by decide +kernel
theorem dX7_item_142 : decode cX7_item 142 = .ok (.ishr, 1) := by decide +kernel
theorem dX7_item_143 : decode cX7_item 143 = .ok (.sipush 255, 3) := by decide +kernel
theorem dX7_item_146 : decode cX7_item 146 = .ok (.iand, 1) := by decide +kernel
theorem dX7_item_147 : decode cX7_item 147 = .ok (.invokevirtual 54, 3) := by decide +kernel
theorem dX7_item_150 : decode cX7_item 150 = .ok (.aload_n 0, 1) := by decide +kernel
theorem dX7_item_151 : decode cX7_item 151 = .ok (.getfield 10, 3) := by decide +kernel
theorem dX7_item_154 : decode cX7_item 154 = .ok (.getfield 44, 3) := by decide +kernel
theorem dX7_item_157 : decode cX7_item 157 = .ok (.invokevirtual 48, 3) := by decide +kernel
theorem dX7_item_160 : decode cX7_item 160 = .ok (.ireturn, 1) := by decide +kernel
theorem dX7_read_0 : decode cX7_read 0 = .ok (.aload_n 0, 1) := by decide +kernel
theorem dX7_read_1 : decode cX7_read 1 = .ok (.getfield 25, 3) := by decide +kernel
theorem dX7_read_4 : decode cX7_read 4 = .ok (.aload_n 0, 1) := by decide +kernel
theorem dX7_read_5 : decode cX7_read 5 = .ok (.getfield 10, 3) := by decide +kernel
theorem dX7_read_8 : decode cX7_read 8 = .ok (.getfield 44, 3) := by decide +kernel
theorem dX7_read_11 : decode cX7_read 11 = .ok (.invokevirtual 61, 3) := by decide +kernel
theorem dX7_read_14 : decode cX7_read 14 = .ok (.aload_n 0, 1) := by decide +kernel
theorem dX7_read_15 : decode cX7_read 15 = .ok (.getfield 10, 3) := by decide +kernel
theorem dX7_read_18 : decode cX7_read 18 = .ok (.aload_n 0, 1) := by decide +kernel
theorem dX7_read_19 : decode cX7_read 19 = .ok (.getfield 25, 3) := by decide +kernel
theorem dX7_read_22 : decode cX7_read 22 = .ok (.getfield 65, 3) := by decide +kernel
theorem dX7_read_25 : decode cX7_read 25 = .ok (.putfield 68, 3) := by decide +kernel
theorem dX7_read_28 : decode cX7_read 28 = .ok (.aload_n 0, 1) := by decide +kernel
theorem dX7_read_29 : decode cX7_read 29 = .ok (.getfield 25, 3) := by decide +kernel
theorem dX7_read_32 : decode cX7_read 32 = .ok (.getfield 65, 3) := by decide +kernel
theorem dX7_read_35 : decode cX7_read 35 = .ok (.ifCond .eq 6, 3) := by decide +kernel
theorem dX7_read_38 : decode cX7_read 38 = .ok (.bipush (-7), 2) := by decide +kernel
theorem dX7_read_40 : decode cX7_read 40 = .ok (.ireturn, 1) := by decide +kernel
theorem dX7_read_41 : decode cX7_read 41 = .ok (.aload_n 0, 1) := by decide +kernel
theorem dX7_read_42 : decode cX7_read 42 = .ok (.getfield 10, 3) := by decide +kernel
theorem dX7_read_45 : decode cX7_read 45 = .ok (.aload_n 0, 1) := by decide +kernel
theorem dX7_read_46 : decode cX7_read 46 = .ok (.getfield 25, 3) := by decide +kernel
theorem dX7_read_49 : decode cX7_read 49 = .ok (.getfield 71, 3) := by decide +kernel
theorem dX7_read_52 : decode cX7_read 52 = .ok (.invokevirtual 75, 3) := by decide +kernel
theorem dX7_read_55 : decode cX7_read 55 = .ok (.aload_n 0, 1) := by decide +kernel
theorem dX7_read_56 : decode cX7_read 56 = .ok (.getfield 10, 3) := by decide +kernel
theorem dX7_read_59 : decode cX7_read 59 = .ok (.getfield 79, 3) := by decide +kernel
theorem dX7_read_62 : decode cX7_read 62 = .ok (.getfield 80, 3) := by decide +kernel
theorem dX7_read_65 : decode cX7_read 65 = .ok (.invokevirtual 86, 3) := by decide +kernel
theorem dX7_read_68 : decode cX7_read 68 = .ok (.ireturn, 1) := by decide +kernel
theorem dX7_fault_0 : decode cX7_fault 0 = .ok (.iload_n 1, 1) := by decide +kernel
theorem dX7_fault_1 : decode cX7_fault 1 = .ok (.iconst 0, 1) := by decide +kernel
theorem dX7_fault_2 : decode cX7_fault 2 = .ok (.iconst 2, 1) := by decide +kernel
theorem dX7_fault_3 : decode cX7_fault 3 = .ok (.invokestatic 40, 3) := by decide +kernel
theorem dX7_fault_6 : decode cX7_fault 6 = .ok (.ifCond .ne 6, 3) := by decide +kernel
theorem dX7_fault_9 : decode cX7_fault 9 = .ok (.bipush (-2), 2) := by decide +kernel
theorem dX7_fault_11 : decode cX7_fault 11 = .ok (.ireturn, 1) := by decide +kernel
theorem dX7_fault_12 : decode cX7_fault 12 = .ok (.iload_n 1, 1) := by decide +kernel
theorem dX7_fault_13 : decode cX7_fault 13 = .ok (.iconst 2, 1) := by decide +kernel
theorem dX7_fault_14 : decode cX7_fault 14 = .ok (.if_icmp .ne 8, 3) := by decide +kernel
theorem dX7_fault_17 : decode cX7_fault 17 = .ok (.aload_n 0, 1) := by decide +kernel
theorem dX7_fault_18 : decode cX7_fault 18 = .ok (.invokevirtual 91, 3) := by decide +kernel
theorem dX7_fault_21 : decode cX7_fault 21 = .ok (.ireturn, 1) := by decide +kernel
theorem dX7_fault_22 : decode cX7_fault 22 = .ok (.aload_n 0, 1) := by decide +kernel
theorem dX7_fault_23 : decode cX7_fault 23 = .ok (.getfield 25, 3) := by decide +kernel
theorem dX7_fault_26 : decode cX7_fault 26 = .ok (.aload_n 0, 1) := by decide +kernel
theorem dX7_fault_27 : decode cX7_fault 27 = .ok (.getfield 10, 3) := by decide +kernel
theorem dX7_fault_30 : decode cX7_fault 30 = .ok (.getfield 44, 3) := by decide +kernel
theorem dX7_fault_33 : decode cX7_fault 33 = .ok (.invokevirtual 61, 3) := by decide +kernel
theorem dX7_fault_36 : decode cX7_fault 36 = .ok (.iload_n 1, 1) := by decide +kernel
theorem dX7_fault_37 : decode cX7_fault 37 = .ok (.ifCond .ne 13, 3) := by decide +kernel
theorem dX7_fault_40 : decode cX7_fault 40 = .ok (.aload_n 0, 1) := by decide +kernel
theorem dX7_fault_41 : decode cX7_fault 41 = .ok (.getfield 25, 3) := by decide +kernel
theorem dX7_fault_44 : decode cX7_fault 44 = .ok (.getfield 65, 3) := by decide +kernel
theorem dX7_fault_47 : decode cX7_fault 47 = .ok (.goto 10, 3) := by decide +kernel
theorem dX7_fault_50 : decode cX7_fault 50 = .ok (.aload_n 0, 1) := by decide +kernel
theorem dX7_fault_51 : decode cX7_fault 51 = .ok (.getfield 25, 3) := by decide +kernel
theorem dX7_fault_54 : decode cX7_fault 54 = .ok (.getfield 94, 3) := by decide +kernel
theorem dX7_fault_57 : decode cX7_fault 57 = .ok (.ireturn, 1) := by decide +kernel
theorem dX7_written_0 : decode cX7_written 0 = .ok (.aload_n 0, 1) := by decide +kernel
theorem dX7_written_1 : decode cX7_written 1 = .ok (.iload_n 1, 1) := by decide +kernel
theorem dX7_written_2 : decode cX7_written 2 = .ok (.invokevirtual 97, 3) := by decide +kernel
theorem dX7_written_5 : decode cX7_written 5 = .ok (.ifCond .ne 6, 3) := by decide +kernel
theorem dX7_written_8 : decode cX7_written 8 = .ok (.bipush (-6), 2) := by decide +kernel
theorem dX7_written_10 : decode cX7_written 10 = .ok (.ireturn, 1) := by decide +kernel
theorem dX7_written_11 : decode cX7_written 11 = .ok (.aload_n 0, 1) := by decide +kernel
theorem dX7_written_12 : decode cX7_written 12 = .ok (.getfield 32, 3) := by decide +kernel
theorem dX7_written_15 : decode cX7_written 15 = .ok (.invokestatic 101, 3) := by decide +kernel
theorem dX7_written_18 : decode cX7_written 18 = .ok (.istore_n 3, 1) := by decide +kernel
theorem dX7_written_19 : decode cX7_written 19 = .ok (.iload_n 2, 1) := by decide +kernel
theorem dX7_written_20 : decode cX7_written 20 = .ok (.iconst (-1), 1) := by decide +kernel
theorem dX7_written_21 : decode cX7_written 21 = .ok (.if_icmp .ne 5, 3) := by decide +kernel
theorem dX7_written_24 : decode cX7_written 24 = .ok (.iload_n 3, 1) := by decide +kernel
theorem dX7_written_25 : decode cX7_written 25 = .ok (.ireturn, 1) := by decide +kernel
theorem dX7_written_26 : decode cX7_written 26 = .ok (.iload_n 2, 1) := by decide +kernel
theorem dX7_written_27 : decode cX7_written 27 = .ok (.iconst 0, 1) := by decide +kernel
theorem dX7_written_28 : decode cX7_written 28 = .ok (.iload_n 3, 1) := by decide +kernel
theorem dX7_written_29 : decode cX7_written 29 = .ok (.iconst 1, 1) := by decide +kernel
theorem dX7_written_30 : decode cX7_written 30 = .ok (.isub, 1) := by decide +kernel
theorem dX7_written_31 : decode cX7_written 31 = .ok (.invokestatic 40, 3) := by decide +kernel
theorem dX7_written_34 : decode cX7_written 34 = .ok (.ifCond .eq 14, 3) := by decide +kernel
theorem dX7_written_37 : decode cX7_written 37 = .ok (.aload_n 0, 1) := by decide +kernel
theorem dX7_written_38 : decode cX7_written 38 = .ok (.getfield 32, 3) := by decide +kernel
theorem dX7_written_41 : decode cX7_written 41 = .ok (.iload_n 2, 1) := by decide +kernel
theorem dX7_written_42 : decode cX7_written 42 = .ok (.invokestatic 107, 3) := by decide +kernel
theorem dX7_written_45 : decode cX7_written 45 = .ok (.goto 5, 3) := by decide +kernel
theorem dX7_written_48 : decode cX7_written 48 = .ok (.bipush (-6), 2) := by decide +kernel
theorem dX7_written_50 : decode cX7_written 50 = .ok (.ireturn, 1) := by decide +kernel
theorem dX7_field_0 : decode cX7_field 0 = .ok (.aload_n 0, 1) := by decide +kernel
theorem dX7_field_1 : decode cX7_field 1 = .ok (.getfield 10, 3) := by decide +kernel
theorem dX7_field_4 : decode cX7_field 4 = .ok (.getfield 79, 3) := by decide +kernel
theorem dX7_field_7 : decode cX7_field 7 = .ok (.getfield 80, 3) := by decide +kernel
theorem dX7_field_10 : decode cX7_field 10 = .ok (.iload_n 1, 1) := by decide +kernel
theorem dX7_field_11 : decode cX7_field 11 = .ok (.invokevirtual 111, 3) := by decide +kernel
theorem dX7_field_14 : decode cX7_field 14 = .ok (.ifCond .ne 5, 3) := by decide +kernel
theorem dX7_field_17 : decode cX7_field 17 = .ok (.iconst (-1), 1) := by decide +kernel
theorem dX7_field_18 : decode cX7_field 18 = .ok (.ireturn, 1) := by decide +kernel
theorem dX7_field_19 : decode cX7_field 19 = .ok (.iload_n 2, 1) := by decide +kernel
theorem dX7_field_20 : decode cX7_field 20 = .ok (.iconst 0, 1) := by decide +kernel
theorem dX7_field_21 : decode cX7_field 21 = .ok (.bipush 11, 2) := by decide +kernel
theorem dX7_field_23 : decode cX7_field 23 = .ok (.invokestatic 40, 3) := by decide +kernel
theorem dX7_field_26 : decode cX7_field 26 = .ok (.ifCond .ne 6, 3) := by decide +kernel
theorem dX7_field_29 : decode cX7_field 29 = .ok (.bipush (-2), 2) := by decide +kernel
theorem dX7_field_31 : decode cX7_field 31 = .ok (.ireturn, 1) := by decide +kernel
theorem dX7_field_32 : decode cX7_field 32 = .ok (.aload_n 0, 1) := by decide +kernel
theorem dX7_field_33 : decode cX7_field 33 = .ok (.getfield 10, 3) := by decide +kernel
theorem dX7_field_36 : decode cX7_field 36 = .ok (.getfield 79, 3) := by decide +kernel
theorem dX7_field_39 : decode cX7_field 39 = .ok (.getfield 80, 3) := by decide +kernel
theorem dX7_field_42 : decode cX7_field 42 = .ok (.iload_n 1, 1) := by decide +kernel
theorem dX7_field_43 : decode cX7_field 43 = .ok (.iload_n 2, 1) := by decide +kernel
theorem dX7_field_44 : decode cX7_field 44 = .ok (.invokevirtual 114, 3) := by decide +kernel
theorem dX7_field_47 : decode cX7_field 47 = .ok (.ireturn, 1) := by decide +kernel
theorem dX7_group_0 : decode cX7_group 0 = .ok (.iload_n 2, 1) := by decide +kernel
theorem dX7_group_1 : decode cX7_group 1 = .ok (.iconst 0, 1) := by decide +kernel
theorem dX7_group_2 : decode cX7_group 2 = .ok (.iconst 3, 1) := by decide +kernel
theorem dX7_group_3 : decode cX7_group 3 = .ok (.invokestatic 40, 3) := by decide +kernel
theorem dX7_group_6 : decode cX7_group 6 = .ok (.ifCond .ne 6, 3) := by decide +kernel
theorem dX7_group_9 : decode cX7_group 9 = .ok (.bipush (-2), 2) := by decide +kernel
theorem dX7_group_11 : decode cX7_group 11 = .ok (.ireturn, 1) := by decide +kernel
theorem dX7_group_12 : decode cX7_group 12 = .ok (.aload_n 0, 1) := by decide +kernel
theorem dX7_group_13 : decode cX7_group 13 = .ok (.getfield 10, 3) := by decide +kernel
theorem dX7_group_16 : decode cX7_group 16 = .ok (.getfield 79, 3) := by decide +kernel
theorem dX7_group_19 : decode cX7_group 19 = .ok (.getfield 118, 3) := by decide +kernel
theorem dX7_group_22 : decode cX7_group 22 = .ok (.iload_n 1, 1) := by decide +kernel
theorem dX7_group_23 : decode cX7_group 23 = .ok (.invokevirtual 111, 3) := by decide +kernel
theorem dX7_group_26 : decode cX7_group 26 = .ok (.ifCond .ne 6, 3) := by decide +kernel
theorem dX7_group_29 : decode cX7_group 29 = .ok (.bipush (-6), 2) := by decide +kernel
theorem dX7_group_31 : decode cX7_group 31 = .ok (.ireturn, 1) := by decide +kernel
theorem dX7_group_32 : decode cX7_group 32 = .ok (.iload_n 2, 1) := by decide +kernel
theorem dX7_group_33 : decode cX7_group 33 = .ok (.iconst 3, 1) := by decide +kernel
theorem dX7_group_34 : decode cX7_group 34 = .ok (.if_icmp .ne 17, 3) := by decide +kernel
theorem dX7_group_37 : decode cX7_group 37 = .ok (.aload_n 0, 1) := by decide +kernel
theorem dX7_group_38 : decode cX7_group 38 = .ok (.getfield 10, 3) := by decide +kernel
theorem dX7_group_41 : decode cX7_group 41 = .ok (.getfield 79, 3) := by decide +kernel
theorem dX7_group_44 : decode cX7_group 44 = .ok (.iload_n 1, 1) := by decide +kernel
theorem dX7_group_45 : decode cX7_group 45 = .ok (.invokevirtual 121, 3) := by decide +kernel
theorem dX7_group_48 : decode cX7_group 48 = .ok (.goto 18, 3) := by decide +kernel
theorem dX7_group_51 : decode cX7_group 51 = .ok (.aload_n 0, 1) := by decide +kernel
theorem dX7_group_52 : decode cX7_group 52 = .ok (.getfield 10, 3) := by decide +kernel
theorem dX7_group_55 : decode cX7_group 55 = .ok (.getfield 79, 3) := by decide +kernel
theorem dX7_group_58 : decode cX7_group 58 = .ok (.getfield 118, 3) := by decide +kernel
theorem dX7_group_61 : decode cX7_group 61 = .ok (.iload_n 1, 1) := by decide +kernel
theorem dX7_group_62 : decode cX7_group 62 = .ok (.iload_n 2, 1) := by decide +kernel
theorem dX7_group_63 : decode cX7_group 63 = .ok (.invokevirtual 114, 3) := by decide +kernel
theorem dX7_group_66 : decode cX7_group 66 = .ok (.ireturn, 1) := by decide +kernel
theorem dX7_length_0 : decode cX7_length 0 = .ok (.iload_n 1, 1) := by decide +kernel
theorem dX7_length_1 : decode cX7_length 1 = .ok (.iconst 0, 1) := by decide +kernel
theorem dX7_length_2 : decode cX7_length 2 = .ok (.iconst 2, 1) := by decide +kernel
theorem dX7_length_3 : decode cX7_length 3 = .ok (.invokestatic 40, 3) := by decide +kernel
theorem dX7_length_6 : decode cX7_length 6 = .ok (.ifCond .eq 13, 3) := by decide +kernel
theorem dX7_length_9 : decode cX7_length 9 = .ok (.iload_n 2, 1) := by decide +kernel
theorem dX7_length_10 : decode cX7_length 10 = .ok (.iconst 0, 1) := by decide +kernel
theorem dX7_length_11 : decode cX7_length 11 = .ok (.bipush 15, 2) := by decide +kernel
theorem dX7_length_13 : decode cX7_length 13 = .ok (.invokestatic 40, 3) := by decide +kernel
theorem dX7_length_16 : decode cX7_length 16 = .ok (.ifCond .ne 6, 3) := by decide +kernel
theorem dX7_length_19 : decode cX7_length 19 = .ok (.bipush (-2), 2) := by decide +kernel
theorem dX7_length_21 : decode cX7_length 21 = .ok (.ireturn, 1) := by decide +kernel
theorem dX7_length_22 : decode cX7_length 22 = .ok (.aload_n 0, 1) := by decide +kernel
theorem dX7_length_23 : decode cX7_length 23 = .ok (.getfield 10, 3) := by decide +kernel
theorem dX7_length_26 : decode cX7_length 26 = .ok (.getfield 79, 3) := by decide +kernel
theorem dX7_length_29 : decode cX7_length 29 = .ok (.iload_n 1, 1) := by decide +kernel
theorem dX7_length_30 : decode cX7_length 30 = .ok (.iload_n 2, 1) := by decide +kernel
theorem dX7_length_31 : decode cX7_length 31 = .ok (.invokevirtual 125, 3) := by decide +kernel
theorem dX7_length_34 : decode cX7_length 34 = .ok (.ireturn, 1) := by decide +kernel
theorem dX7_put_0 : decode cX7_put 0 = .ok (.iload_n 1, 1) := by decide +kernel
theorem dX7_put_1 : decode cX7_put 1 = .ok (.iconst 0, 1) := by decide +kernel
theorem dX7_put_2 : decode cX7_put 2 = .ok (.sipush 255, 3) := by decide +kernel
theorem dX7_put_5 : decode cX7_put 5 = .ok (.invokestatic 40, 3) := by decide +kernel
theorem dX7_put_8 : decode cX7_put 8 = .ok (.ifCond .ne 6, 3) := by decide +kernel
theorem dX7_put_11 : decode cX7_put 11 = .ok (.bipush (-2), 2) := by decide +kernel
theorem dX7_put_13 : decode cX7_put 13 = .ok (.ireturn, 1) := by decide +kernel
theorem dX7_put_14 : decode cX7_put 14 = .ok (.aload_n 0, 1) := by decide +kernel
theorem dX7_put_15 : decode cX7_put 15 = .ok (.getfield 10, 3) := by decide +kernel
theorem dX7_put_18 : decode cX7_put 18 = .ok (.getfield 128, 3) := by decide +kernel
theorem dX7_put_21 : decode cX7_put 21 = .ok (.invokevirtual 48, 3) := by decide +kernel
theorem dX7_put_24 : decode cX7_put 24 = .ok (.bipush 33, 2) := by decide +kernel
theorem dX7_put_26 : decode cX7_put 26 = .ok (.if_icmp .lt 6, 3) := by decide +kernel
theorem dX7_put_29 : decode cX7_put 29 = .ok (.bipush (-4), 2) := by decide +kernel
theorem dX7_put_31 : decode cX7_put 31 = .ok (.ireturn, 1) := by decide +kernel
theorem dX7_put_32 : decode cX7_put 32 = .ok (.aload_n 0, 1) := by decide +kernel
theorem dX7_put_33 : decode cX7_put 33 = .ok (.getfield 10, 3) := by decide +kernel
theorem dX7_put_36 : decode cX7_put 36 = .ok (.getfield 128, 3) := by decide +kernel
theorem dX7_put_39 : decode cX7_put 39 = .ok (.iload_n 1, 1) := by decide +kernel
theorem dX7_put_40 : decode cX7_put 40 = .ok (.invokevirtual 54, 3) := by decide +kernel
theorem dX7_put_43 : decode cX7_put 43 = .ok (.aload_n 0, 1) := by decide +kernel
theorem dX7_put_44 : decode cX7_put 44 = .ok (.getfield 10, 3) := by decide +kernel
theorem dX7_put_47 : decode cX7_put 47 = .ok (.getfield 128, 3) := by decide +kernel
theorem dX7_put_50 : decode cX7_put 50 = .ok (.invokevirtual 48, 3) := by decide +kernel
theorem dX7_put_53 : decode cX7_put 53 = .ok (.ireturn, 1) := by decide +kernel
theorem dX7_come_0 : decode cX7_come 0 = .ok (.aload_n 0, 1) := by decide +kernel
theorem dX7_come_1 : decode cX7_come 1 = .ok (.getfield 10, 3) := by decide +kernel
theorem dX7_come_4 : decode cX7_come 4 = .ok (.invokevirtual 131, 3) := by decide +kernel
theorem dX7_come_7 : decode cX7_come 7 = .ok (.ifCond .ne 16, 3) := by decide +kernel
theorem dX7_come_10 : decode cX7_come 10 = .ok (.aload_n 0, 1) := by decide +kernel
theorem dX7_come_11 : decode cX7_come 11 = .ok (.getfield 10, 3) := by decide +kernel
theorem dX7_come_14 : decode cX7_come 14 = .ok (.getfield 128, 3) := by decide +kernel
theorem dX7_come_17 : decode cX7_come 17 = .ok (.invokevirtual 58, 3) := by decide +kernel
theorem dX7_come_20 : decode cX7_come 20 = .ok (.bipush (-5), 2) := by decide +kernel
theorem dX7_come_22 : decode cX7_come 22 = .ok (.ireturn, 1) := by decide +kernel
theorem dX7_come_23 : decode cX7_come 23 = .ok (.aload_n 0, 1) := by decide +kernel
theorem dX7_come_24 : decode cX7_come 24 = .ok (.getfield 10, 3) := by decide +kernel
theorem dX7_come_27 : decode cX7_come 27 = .ok (.getfield 135, 3) := by decide +kernel
theorem dX7_come_30 : decode cX7_come 30 = .ok (.invokevirtual 86, 3) := by decide +kernel
theorem dX7_come_33 : decode cX7_come 33 = .ok (.istore_n 1, 1) := by decide +kernel
theorem dX7_come_34 : decode cX7_come 34 = .ok (.iload_n 1, 1) := by decide +kernel
theorem dX7_come_35 : decode cX7_come 35 = .ok (.bipush 100, 2) := by decide +kernel
theorem dX7_come_37 : decode cX7_come 37 = .ok (.if_icmp .lt 6, 3) := by decide +kernel
theorem dX7_come_40 : decode cX7_come 40 = .ok (.bipush (-4), 2) := by decide +kernel
theorem dX7_come_42 : decode cX7_come 42 = .ok (.ireturn, 1) := by decide +kernel
theorem dX7_come_43 : decode cX7_come 43 = .ok (.aload_n 0, 1) := by decide +kernel
theorem dX7_come_44 : decode cX7_come 44 = .ok (.getfield 10, 3) := by decide +kernel
theorem dX7_come_47 : decode cX7_come 47 = .ok (.invokevirtual 138, 3) := by decide +kernel
theorem dX7_come_50 : decode cX7_come 50 = .ok (.aload_n 0, 1) := by decide +kernel
theorem dX7_come_51 : decode cX7_come 51 = .ok (.getfield 10, 3) := by decide +kernel
theorem dX7_come_54 : decode cX7_come 54 = .ok (.getfield 128, 3) := by decide +kernel
theorem dX7_come_57 : decode cX7_come 57 = .ok (.invokevirtual 58, 3) := by decide +kernel
theorem dX7_come_60 : decode cX7_come 60 = .ok (.aload_n 0, 1) := by decide +kernel
theorem dX7_come_61 : decode cX7_come 61 = .ok (.getfield 10, 3) := by decide +kernel
theorem dX7_come_64 : decode cX7_come 64 = .ok (.dup, 1) := by decide +kernel
theorem dX7_come_65 : decode cX7_come 65 = .ok (.getfield 141, 3) := by decide +kernel
theorem dX7_come_68 : decode cX7_come 68 = .ok (.iconst 1, 1) := by decide +kernel
theorem dX7_come_69 : decode cX7_come 69 = .ok (.iadd, 1) := by decide +kernel
theorem dX7_come_70 : decode cX7_come 70 = .ok (.putfield 141, 3) := by decide +kernel
theorem dX7_come_73 : decode cX7_come 73 = .ok (.aload_n 0, 1) := by decide +kernel
theorem dX7_come_74 : decode cX7_come 74 = .ok (.getfield 10, 3) := by decide +kernel
theorem dX7_come_77 : decode cX7_come 77 = .ok (.getfield 135, 3) := by decide +kernel
theorem dX7_come_80 : decode cX7_come 80 = .ok (.invokevirtual 86, 3) := by decide +kernel
theorem dX7_come_83 : decode cX7_come 83 = .ok (.iload_n 1, 1) := by decide +kernel
theorem dX7_come_84 : decode cX7_come 84 = .ok (.isub, 1) := by decide +kernel
theorem dX7_come_85 : decode cX7_come 85 = .ok (.ireturn, 1) := by decide +kernel
theorem dX7_event_0 : decode cX7_event 0 = .ok (.iload_n 1, 1) := by decide +kernel
theorem dX7_event_1 : decode cX7_event 1 = .ok (.iconst 0, 1) := by decide +kernel
theorem dX7_event_2 : decode cX7_event 2 = .ok (.iconst 2, 1) := by decide +kernel
theorem dX7_event_3 : decode cX7_event 3 = .ok (.invokestatic 40, 3) := by decide +kernel
theorem dX7_event_6 : decode cX7_event 6 = .ok (.ifCond .ne 6, 3) := by decide +kernel
theorem dX7_event_9 : decode cX7_event 9 = .ok (.bipush (-2), 2) := by decide +kernel
theorem dX7_event_11 : decode cX7_event 11 = .ok (.ireturn, 1) := by decide +kernel
theorem dX7_event_12 : decode cX7_event 12 = .ok (.aload_n 0, 1) := by decide +kernel
theorem dX7_event_13 : decode cX7_event 13 = .ok (.getfield 10, 3) := by decide +kernel
theorem dX7_event_16 : decode cX7_event 16 = .ok (.getfield 135, 3) := by decide +kernel
theorem dX7_event_19 : decode cX7_event 19 = .ok (.iconst 0, 1) := by decide +kernel
theorem dX7_event_20 : decode cX7_event 20 = .ok (.invokevirtual 111, 3) := by decide +kernel
theorem dX7_event_23 : decode cX7_event 23 = .ok (.ifCond .eq 18, 3) := by decide +kernel
theorem dX7_event_26 : decode cX7_event 26 = .ok (.aload_n 0, 1) := by decide +kernel
theorem dX7_event_27 : decode cX7_event 27 = .ok (.getfield 10, 3) := by decide +kernel
theorem dX7_event_30 : decode cX7_event 30 = .ok (.getfield 135, 3) := by decide +kernel
theorem dX7_event_33 : decode cX7_event 33 = .ok (.iconst 0, 1) := by decide +kernel
theorem dX7_event_34 : decode cX7_event 34 = .ok (.iload_n 1, 1) := by decide +kernel
theorem dX7_event_35 : decode cX7_event 35 = .ok (.invokevirtual 114, 3) := by decide +kernel
theorem dX7_event_38 : decode cX7_event 38 = .ok (.goto 5, 3) := by decide +kernel
theorem dX7_event_41 : decode cX7_event 41 = .ok (.bipush (-6), 2) := by decide +kernel
theorem dX7_event_43 : decode cX7_event 43 = .ok (.ireturn, 1) := by decide +kernel
theorem dX7_next_0 : decode cX7_next 0 = .ok (.aload_n 0, 1) := by decide +kernel
theorem dX7_next_1 : decode cX7_next 1 = .ok (.getfield 10, 3) := by decide +kernel
theorem dX7_next_4 : decode cX7_next 4 = .ok (.getfield 135, 3) := by decide +kernel
theorem dX7_next_7 : decode cX7_next 7 = .ok (.iconst 0, 1) := by decide +kernel
theorem dX7_next_8 : decode cX7_next 8 = .ok (.invokevirtual 111, 3) := by decide +kernel
theorem dX7_next_11 : decode cX7_next 11 = .ok (.ifCond .ne 6, 3) := by decide +kernel
theorem dX7_next_14 : decode cX7_next 14 = .ok (.bipush (-6), 2) := by decide +kernel
theorem dX7_next_16 : decode cX7_next 16 = .ok (.ireturn, 1) := by decide +kernel
theorem dX7_next_17 : decode cX7_next 17 = .ok (.aload_n 0, 1) := by decide +kernel
theorem dX7_next_18 : decode cX7_next 18 = .ok (.getfield 10, 3) := by decide +kernel
theorem dX7_next_21 : decode cX7_next 21 = .ok (.getfield 135, 3) := by decide +kernel
theorem dX7_next_24 : decode cX7_next 24 = .ok (.invokevirtual 144, 3) := by decide +kernel
theorem dX7_next_27 : decode cX7_next 27 = .ok (.aload_n 0, 1) := by decide +kernel
theorem dX7_next_28 : decode cX7_next 28 = .ok (.getfield 10, 3) := by decide +kernel
theorem dX7_next_31 : decode cX7_next 31 = .ok (.getfield 135, 3) := by decide +kernel
theorem dX7_next_34 : decode cX7_next 34 = .ok (.invokevirtual 86, 3) := by decide +kernel
theorem dX7_next_37 : decode cX7_next 37 = .ok (.ireturn, 1) := by decide +kernel
theorem dX7_last_0 : decode cX7_last 0 = .ok (.aload_n 0, 1) := by decide +kernel
theorem dX7_last_1 : decode cX7_last 1 = .ok (.getfield 10, 3) := by decide +kernel
theorem dX7_last_4 : decode cX7_last 4 = .ok (.getfield 79, 3) := by decide +kernel
theorem dX7_last_7 : decode cX7_last 7 = .ok (.getfield 80, 3) := by decide +kernel
theorem dX7_last_10 : decode cX7_last 10 = .ok (.astore_n 2, 1) := by decide +kernel
theorem dX7_last_11 : decode cX7_last 11 = .ok (.aload_n 2, 1) := by decide +kernel
theorem dX7_last_12 : decode cX7_last 12 = .ok (.iload_n 1, 1) := by decide +kernel
theorem dX7_last_13 : decode cX7_last 13 = .ok (.invokevirtual 111, 3) := by decide +kernel
theorem dX7_last_16 : decode cX7_last 16 = .ok (.ifCond .ne 5, 3) := by decide +kernel
theorem dX7_last_19 : decode cX7_last 19 = .ok (.iconst (-1), 1) := by decide +kernel
theorem dX7_last_20 : decode cX7_last 20 = .ok (.ireturn, 1) := by decide +kernel
theorem dX7_last_21 : decode cX7_last 21 = .ok (.aload_n 2, 1) := by decide +kernel
theorem dX7_last_22 : decode cX7_last 22 = .ok (.iload_n 1, 1) := by decide +kernel
theorem dX7_last_23 : decode cX7_last 23 = .ok (.bipush 6, 2) := by decide +kernel
theorem dX7_last_25 : decode cX7_last 25 = .ok (.invokevirtual 114, 3) := by decide +kernel
theorem dX7_last_28 : decode cX7_last 28 = .ok (.iconst 1, 1) := by decide +kernel
theorem dX7_last_29 : decode cX7_last 29 = .ok (.if_icmp .ne 20, 3) := by decide +kernel
theorem dX7_last_32 : decode cX7_last 32 = .ok (.aload_n 2, 1) := by decide +kernel
theorem dX7_last_33 : decode cX7_last 33 = .ok (.aload_n 2, 1) := by decide +kernel
theorem dX7_last_34 : decode cX7_last 34 = .ok (.iload_n 1, 1) := by decide +kernel
theorem dX7_last_35 : decode cX7_last 35 = .ok (.bipush 12, 2) := by decide +kernel
theorem dX7_last_37 : decode cX7_last 37 = .ok (.invokevirtual 114, 3) := by decide +kernel
theorem dX7_last_40 : decode cX7_last 40 = .ok (.bipush 16, 2) := by decide +kernel
theorem dX7_last_42 : decode cX7_last 42 = .ok (.invokevirtual 114, 3) := by decide +kernel
theorem dX7_last_45 : decode cX7_last 45 = .ok (.invokestatic 147, 3) := by decide +kernel
theorem dX7_last_48 : decode cX7_last 48 = .ok (.ireturn, 1) := by decide +kernel
theorem dX7_last_49 : decode cX7_last 49 = .ok (.aload_n 2, 1) := by decide +kernel
theorem dX7_last_50 : decode cX7_last 50 = .ok (.iload_n 1, 1) := by decide +kernel
theorem dX7_last_51 : decode cX7_last 51 = .ok (.bipush 14, 2) := by decide +kernel
theorem dX7_last_53 : decode cX7_last 53 = .ok (.invokevirtual 114, 3) := by decide +kernel
theorem dX7_last_56 : decode cX7_last 56 = .ok (.ireturn, 1) := by decide +kernel
theorem dX7_want_0 : decode cX7_want 0 = .ok (.aload_n 0, 1) := by decide +kernel
theorem dX7_want_1 : decode cX7_want 1 = .ok (.getfield 10, 3) := by decide +kernel
theorem dX7_want_4 : decode cX7_want 4 = .ok (.getfield 79, 3) := by decide +kernel
theorem dX7_want_7 : decode cX7_want 7 = .ok (.getfield 80, 3) := by decide +kernel
theorem dX7_want_10 : decode cX7_want 10 = .ok (.astore_n 3, 1) := by decide +kernel
theorem dX7_want_11 : decode cX7_want 11 = .ok (.aload_n 3, 1) := by decide +kernel
theorem dX7_want_12 : decode cX7_want 12 = .ok (.iload_n 1, 1) := by decide +kernel
theorem dX7_want_13 : decode cX7_want 13 = .ok (.invokevirtual 111, 3) := by decide +kernel
theorem dX7_want_16 : decode cX7_want 16 = .ok (.ifCond .ne 5, 3) := by decide +kernel
theorem dX7_want_19 : decode cX7_want 19 = .ok (.iconst (-1), 1) := by decide +kernel
theorem dX7_want_20 : decode cX7_want 20 = .ok (.ireturn, 1) := by decide +kernel
theorem dX7_want_21 : decode cX7_want 21 = .ok (.aload_n 3, 1) := by decide +kernel
theorem dX7_want_22 : decode cX7_want 22 = .ok (.iload_n 1, 1) := by decide +kernel
theorem dX7_want_23 : decode cX7_want 23 = .ok (.bipush 6, 2) := by decide +kernel
theorem dX7_want_25 : decode cX7_want 25 = .ok (.invokevirtual 114, 3) := by decide +kernel
theorem dX7_want_28 : decode cX7_want 28 = .ok (.iconst 1, 1) := by decide +kernel
theorem dX7_want_29 : decode cX7_want 29 = .ok (.if_icmp .eq 12, 3) := by decide +kernel
theorem dX7_want_32 : decode cX7_want 32 = .ok (.aload_n 3, 1) := by decide +kernel
theorem dX7_want_33 : decode cX7_want 33 = .ok (.iload_n 1, 1) := by decide +kernel
theorem dX7_want_34 : decode cX7_want 34 = .ok (.iconst 0, 1) := by decide +kernel
theorem dX7_want_35 : decode cX7_want 35 = .ok (.invokevirtual 114, 3) := by decide +kernel
theorem dX7_want_38 : decode cX7_want 38 = .ok (.ifCond .ne 6, 3) := by decide +kernel
theorem dX7_want_41 : decode cX7_want 41 = .ok (.bipush (-3), 2) := by decide +kernel
theorem dX7_want_43 : decode cX7_want 43 = .ok (.ireturn, 1) := by decide +kernel
theorem dX7_want_44 : decode cX7_want 44 = .ok (.aload_n 0, 1) := by decide +kernel
theorem dX7_want_45 : decode cX7_want 45 = .ok (.getfield 10, 3) := by decide +kernel
theorem dX7_want_48 : decode cX7_want 48 = .ok (.getfield 79, 3) := by decide +kernel
theorem dX7_want_51 : decode cX7_want 51 = .ok (.iload_n 1, 1) := by decide +kernel
theorem dX7_want_52 : decode cX7_want 52 = .ok (.iload_n 2, 1) := by decide +kernel
theorem dX7_want_53 : decode cX7_want 53 = .ok (.invokevirtual 152, 3) := by decide +kernel
theorem dX7_want_56 : decode cX7_want 56 = .ok (.ifCond .ne 6, 3) := by decide +kernel
theorem dX7_want_59 : decode cX7_want 59 = .ok (.bipush (-2), 2) := by decide +kernel
theorem dX7_want_61 : decode cX7_want 61 = .ok (.ireturn, 1) := by decide +kernel
theorem dX7_want_62 : decode cX7_want 62 = .ok (.aload_n 3, 1) := by decide +kernel
theorem dX7_want_63 : decode cX7_want 63 = .ok (.iload_n 1, 1) := by decide +kernel
theorem dX7_want_64 : decode cX7_want 64 = .ok (.bipush 15, 2) := by decide +kernel
theorem dX7_want_66 : decode cX7_want 66 = .ok (.invokevirtual 114, 3) := by decide +kernel
theorem dX7_want_69 : decode cX7_want 69 = .ok (.istore 4, 2) := by decide +kernel
theorem dX7_want_71 : decode cX7_want 71 = .ok (.aload_n 3, 1) := by decide +kernel
theorem dX7_want_72 : decode cX7_want 72 = .ok (.iload_n 1, 1) := by decide +kernel
theorem dX7_want_73 : decode cX7_want 73 = .ok (.bipush 15, 2) := by decide +kernel
theorem dX7_want_75 : decode cX7_want 75 = .ok (.iload_n 2, 1) := by decide +kernel
theorem dX7_want_76 : decode cX7_want 76 = .ok (.invokevirtual 156, 3) := by decide +kernel
theorem dX7_want_79 : decode cX7_want 79 = .ok (.iload 4, 2) := by decide +kernel
theorem dX7_want_81 : decode cX7_want 81 = .ok (.ireturn, 1) := by decide +kernel
theorem dX7_made_0 : decode cX7_made 0 = .ok (.iload_n 1, 1) := by decide +kernel
theorem dX7_made_1 : decode cX7_made 1 = .ok (.iconst 1, 1) := by decide +kernel
theorem dX7_made_2 : decode cX7_made 2 = .ok (.iconst 2, 1) := by decide +kernel
theorem dX7_made_3 : decode cX7_made 3 = .ok (.invokestatic 40, 3) := by decide +kernel
theorem dX7_made_6 : decode cX7_made 6 = .ok (.ifCond .eq 13, 3) := by decide +kernel
theorem dX7_made_9 : decode cX7_made 9 = .ok (.iload_n 2, 1) := by decide +kernel
theorem dX7_made_10 : decode cX7_made 10 = .ok (.iconst 0, 1) := by decide +kernel
theorem dX7_made_11 : decode cX7_made 11 = .ok (.bipush 15, 2) := by decide +kernel
theorem dX7_made_13 : decode cX7_made 13 = .ok (.invokestatic 40, 3) := by decide +kernel
theorem dX7_made_16 : decode cX7_made 16 = .ok (.ifCond .ne 6, 3) := by decide +kernel
theorem dX7_made_19 : decode cX7_made 19 = .ok (.bipush (-2), 2) := by decide +kernel
theorem dX7_made_21 : decode cX7_made 21 = .ok (.ireturn, 1) := by decide +kernel
theorem dX7_made_22 : decode cX7_made 22 = .ok (.aload_n 0, 1) := by decide +kernel
theorem dX7_made_23 : decode cX7_made 23 = .ok (.getfield 10, 3) := by decide +kernel
theorem dX7_made_26 : decode cX7_made 26 = .ok (.getfield 79, 3) := by decide +kernel
theorem dX7_made_29 : decode cX7_made 29 = .ok (.iload_n 1, 1) := by decide +kernel
theorem dX7_made_30 : decode cX7_made 30 = .ok (.iload_n 2, 1) := by decide +kernel
theorem dX7_made_31 : decode cX7_made 31 = .ok (.invokevirtual 125, 3) := by decide +kernel
theorem dX7_made_34 : decode cX7_made 34 = .ok (.istore 4, 2) := by decide +kernel
theorem dX7_made_36 : decode cX7_made 36 = .ok (.iload 4, 2) := by decide +kernel
theorem dX7_made_38 : decode cX7_made 38 = .ok (.ifCond .ne 6, 3) := by decide +kernel
theorem dX7_made_41 : decode cX7_made 41 = .ok (.bipush (-6), 2) := by decide +kernel
theorem dX7_made_43 : decode cX7_made 43 = .ok (.ireturn, 1) := by decide +kernel
theorem dX7_made_44 : decode cX7_made 44 = .ok (.aload_n 0, 1) := by decide +kernel
theorem dX7_made_45 : decode cX7_made 45 = .ok (.getfield 10, 3) := by decide +kernel
theorem dX7_made_48 : decode cX7_made 48 = .ok (.getfield 79, 3) := by decide +kernel
theorem dX7_made_51 : decode cX7_made 51 = .ok (.invokevirtual 160, 3) := by decide +kernel
theorem dX7_made_54 : decode cX7_made 54 = .ok (.istore 5, 2) := by decide +kernel
theorem dX7_made_56 : decode cX7_made 56 = .ok (.iload 5, 2) := by decide +kernel
theorem dX7_made_58 : decode cX7_made 58 = .ok (.iload 4, 2) := by decide +kernel
theorem dX7_made_60 : decode cX7_made 60 = .ok (.invokestatic 163, 3) := by decide +kernel
theorem dX7_made_63 : decode cX7_made 63 = .ok (.iadd, 1) := by decide +kernel
theorem dX7_made_64 : decode cX7_made 64 = .ok (.istore 6, 2) := by decide +kernel
theorem dX7_made_66 : decode cX7_made 66 = .ok (.iload_n 3, 1) := by decide +kernel
theorem dX7_made_67 : decode cX7_made 67 = .ok (.iconst (-1), 1) := by decide +kernel
theorem dX7_made_68 : decode cX7_made 68 = .ok (.if_icmp .ne 6, 3) := by decide +kernel
theorem dX7_made_71 : decode cX7_made 71 = .ok (.iload 6, 2) := by decide +kernel
theorem dX7_made_73 : decode cX7_made 73 = .ok (.ireturn, 1) := by decide +kernel
theorem dX7_made_74 : decode cX7_made 74 = .ok (.iload_n 3, 1) := by decide +kernel
theorem dX7_made_75 : decode cX7_made 75 = .ok (.iconst 0, 1) := by decide +kernel
theorem dX7_made_76 : decode cX7_made 76 = .ok (.iload 6, 2) := by decide +kernel
theorem dX7_made_78 : decode cX7_made 78 = .ok (.iconst 1, 1) := by decide +kernel
theorem dX7_made_79 : decode cX7_made 79 = .ok (.isub, 1) := by decide +kernel
theorem dX7_made_80 : decode cX7_made 80 = .ok (.invokestatic 40, 3) := by decide +kernel
theorem dX7_made_83 : decode cX7_made 83 = .ok (.ifCond .ne 6, 3) := by decide +kernel
theorem dX7_made_86 : decode cX7_made 86 = .ok (.bipush (-6), 2) := by decide +kernel
theorem dX7_made_88 : decode cX7_made 88 = .ok (.ireturn, 1) := by decide +kernel
theorem dX7_made_89 : decode cX7_made 89 = .ok (.iload_n 3, 1) := by decide +kernel
theorem dX7_made_90 : decode cX7_made 90 = .ok (.iload 5, 2) := by decide +kernel
theorem dX7_made_92 : decode cX7_made 92 = .ok (.if_icmp .ge 7, 3) := by decide +kernel
theorem dX7_made_95 : decode cX7_made 95 = .ok (.iload_n 2, 1) := by decide +kernel
theorem dX7_made_96 : decode cX7_made 96 = .ok (.goto 19, 3) := by decide +kernel
theorem dX7_made_99 : decode cX7_made 99 = .ok (.aload_n 0, 1) := by decide +kernel
theorem dX7_made_100 : decode cX7_made 100 = .ok (.getfield 10, 3) := by decide +kernel
theorem dX7_made_103 : decode cX7_made 103 = .ok (.getfield 79, 3) := by decide +kernel
theorem dX7_made_106 : decode cX7_made 106 = .ok (.iload_n 1, 1) := by decide +kernel
theorem dX7_made_107 : decode cX7_made 107 = .ok (.iload_n 2, 1) := by decide +kernel
theorem dX7_made_108 : decode cX7_made 108 = .ok (.iload_n 3, 1) := by decide +kernel
theorem dX7_made_109 : decode cX7_made 109 = .ok (.iload 5, 2) := by decide +kernel
theorem dX7_made_111 : decode cX7_made 111 = .ok (.isub, 1) := by decide +kernel
theorem dX7_made_112 : decode cX7_made 112 = .ok (.invokevirtual 166, 3) := by decide +kernel
theorem dX7_made_115 : decode cX7_made 115 = .ok (.ireturn, 1) := by decide +kernel
theorem dX7_count_0 : decode cX7_count 0 = .ok (.iload_n 1, 1) := by decide +kernel
theorem dX7_count_1 : decode cX7_count 1 = .ok (.tableswitch 129 0 7 #[47, 61, 75, 86, 97, 108, 116, 124], 47) := by decide +kernel
theorem dX7_count_48 : decode cX7_count 48 = .ok (.aload_n 0, 1) := by decide +kernel
theorem dX7_count_49 : decode cX7_count 49 = .ok (.getfield 10, 3) := by decide +kernel
theorem dX7_count_52 : decode cX7_count 52 = .ok (.getfield 79, 3) := by decide +kernel
theorem dX7_count_55 : decode cX7_count 55 = .ok (.getfield 80, 3) := by decide +kernel
theorem dX7_count_58 : decode cX7_count 58 = .ok (.invokevirtual 86, 3) := by decide +kernel
theorem dX7_count_61 : decode cX7_count 61 = .ok (.ireturn, 1) := by decide +kernel
theorem dX7_count_62 : decode cX7_count 62 = .ok (.aload_n 0, 1) := by decide +kernel
theorem dX7_count_63 : decode cX7_count 63 = .ok (.getfield 10, 3) := by decide +kernel
theorem dX7_count_66 : decode cX7_count 66 = .ok (.getfield 79, 3) := by decide +kernel
theorem dX7_count_69 : decode cX7_count 69 = .ok (.getfield 118, 3) := by decide +kernel
theorem dX7_count_72 : decode cX7_count 72 = .ok (.invokevirtual 86, 3) := by decide +kernel
theorem dX7_count_75 : decode cX7_count 75 = .ok (.ireturn, 1) := by decide +kernel
theorem dX7_count_76 : decode cX7_count 76 = .ok (.aload_n 0, 1) := by decide +kernel
theorem dX7_count_77 : decode cX7_count 77 = .ok (.getfield 10, 3) := by decide +kernel
theorem dX7_count_80 : decode cX7_count 80 = .ok (.getfield 135, 3) := by decide +kernel
theorem dX7_count_83 : decode cX7_count 83 = .ok (.invokevirtual 86, 3) := by decide +kernel
theorem dX7_count_86 : decode cX7_count 86 = .ok (.ireturn, 1) := by decide +kernel
theorem dX7_count_87 : decode cX7_count 87 = .ok (.aload_n 0, 1) := by decide +kernel
theorem dX7_count_88 : decode cX7_count 88 = .ok (.getfield 10, 3) := by decide +kernel
theorem dX7_count_91 : decode cX7_count 91 = .ok (.getfield 44, 3) := by decide +kernel
theorem dX7_count_94 : decode cX7_count 94 = .ok (.invokevirtual 48, 3) := by decide +kernel
theorem dX7_count_97 : decode cX7_count 97 = .ok (.ireturn, 1) := by decide +kernel
theorem dX7_count_98 : decode cX7_count 98 = .ok (.aload_n 0, 1) := by decide +kernel
theorem dX7_count_99 : decode cX7_count 99 = .ok (.getfield 10, 3) := by decide +kernel
theorem dX7_count_102 : decode cX7_count 102 = .ok (.getfield 128, 3) := by decide +kernel
theorem dX7_count_105 : decode cX7_count 105 = .ok (.invokevirtual 48, 3) := by decide +kernel
theorem dX7_count_108 : decode cX7_count 108 = .ok (.ireturn, 1) := by decide +kernel
theorem dX7_count_109 : decode cX7_count 109 = .ok (.aload_n 0, 1) := by decide +kernel
theorem dX7_count_110 : decode cX7_count 110 = .ok (.getfield 10, 3) := by decide +kernel
theorem dX7_count_113 : decode cX7_count 113 = .ok (.getfield 141, 3) := by decide +kernel
theorem dX7_count_116 : decode cX7_count 116 = .ok (.ireturn, 1) := by decide +kernel
theorem dX7_count_117 : decode cX7_count 117 = .ok (.aload_n 0, 1) := by decide +kernel
theorem dX7_count_118 : decode cX7_count 118 = .ok (.getfield 10, 3) := by decide +kernel
theorem dX7_count_121 : decode cX7_count 121 = .ok (.getfield 68, 3) := by decide +kernel
theorem dX7_count_124 : decode cX7_count 124 = .ok (.ireturn, 1) := by decide +kernel
theorem dX7_count_125 : decode cX7_count 125 = .ok (.aload_n 0, 1) := by decide +kernel
theorem dX7_count_126 : decode cX7_count 126 = .ok (.getfield 36, 3) := by decide +kernel
theorem dX7_count_129 : decode cX7_count 129 = .ok (.ireturn, 1) := by decide +kernel
theorem dX7_count_130 : decode cX7_count 130 = .ok (.bipush (-2), 2) := by decide +kernel
theorem dX7_count_132 : decode cX7_count 132 = .ok (.ireturn, 1) := by decide +kernel
theorem dX7_image_0 : decode cX7_image 0 = .ok (.iload_n 1, 1) := by decide +kernel
theorem dX7_image_1 : decode cX7_image 1 = .ok (.iconst 0, 1) := by decide +kernel
theorem dX7_image_2 : decode cX7_image 2 = .ok (.iconst 1, 1) := by decide +kernel
theorem dX7_image_3 : decode cX7_image 3 = .ok (.invokestatic 40, 3) := by decide +kernel
theorem dX7_image_6 : decode cX7_image 6 = .ok (.ifCond .ne 6, 3) := by decide +kernel
theorem dX7_image_9 : decode cX7_image 9 = .ok (.bipush (-2), 2) := by decide +kernel
theorem dX7_image_11 : decode cX7_image 11 = .ok (.ireturn, 1) := by decide +kernel
theorem dX7_image_12 : decode cX7_image 12 = .ok (.aload_n 0, 1) := by decide +kernel
theorem dX7_image_13 : decode cX7_image 13 = .ok (.iload_n 1, 1) := by decide +kernel
theorem dX7_image_14 : decode cX7_image 14 = .ok (.invokevirtual 170, 3) := by decide +kernel
theorem dX7_image_17 : decode cX7_image 17 = .ok (.aload_n 0, 1) := by decide +kernel
theorem dX7_image_18 : decode cX7_image 18 = .ok (.getfield 10, 3) := by decide +kernel
theorem dX7_image_21 : decode cX7_image 21 = .ok (.invokevirtual 174, 3) := by decide +kernel
theorem dX7_image_24 : decode cX7_image 24 = .ok (.aload_n 0, 1) := by decide +kernel
theorem dX7_image_25 : decode cX7_image 25 = .ok (.aload_n 0, 1) := by decide +kernel
theorem dX7_image_26 : decode cX7_image 26 = .ok (.getfield 36, 3) := by decide +kernel
theorem dX7_image_29 : decode cX7_image 29 = .ok (.iload_n 1, 1) := by decide +kernel
theorem dX7_image_30 : decode cX7_image 30 = .ok (.iconst 1, 1) := by decide +kernel
theorem dX7_image_31 : decode cX7_image 31 = .ok (.iadd, 1) := by decide +kernel
theorem dX7_image_32 : decode cX7_image 32 = .ok (.ior, 1) := by decide +kernel
theorem dX7_image_33 : decode cX7_image 33 = .ok (.putfield 36, 3) := by decide +kernel
theorem dX7_image_36 : decode cX7_image 36 = .ok (.iconst 1, 1) := by decide +kernel
theorem dX7_image_37 : decode cX7_image 37 = .ok (.ireturn, 1) := by decide +kernel
theorem dX7_restore_0 : decode cX7_restore 0 = .ok (.iload_n 1, 1) := by decide +kernel
theorem dX7_restore_1 : decode cX7_restore 1 = .ok (.iconst 0, 1) := by decide +kernel
theorem dX7_restore_2 : decode cX7_restore 2 = .ok (.iconst 1, 1) := by decide +kernel
theorem dX7_restore_3 : decode cX7_restore 3 = .ok (.invokestatic 40, 3) := by decide +kernel
theorem dX7_restore_6 : decode cX7_restore 6 = .ok (.ifCond .ne 6, 3) := by decide +kernel
theorem dX7_restore_9 : decode cX7_restore 9 = .ok (.bipush (-2), 2) := by decide +kernel
theorem dX7_restore_11 : decode cX7_restore 11 = .ok (.ireturn, 1) := by decide +kernel
theorem dX7_restore_12 : decode cX7_restore 12 = .ok (.aload_n 0, 1) := by decide +kernel
theorem dX7_restore_13 : decode cX7_restore 13 = .ok (.getfield 36, 3) := by decide +kernel
theorem dX7_restore_16 : decode cX7_restore 16 = .ok (.iload_n 1, 1) := by decide +kernel
theorem dX7_restore_17 : decode cX7_restore 17 = .ok (.iconst 1, 1) := by decide +kernel
theorem dX7_restore_18 : decode cX7_restore 18 = .ok (.iadd, 1) := by decide +kernel
theorem dX7_restore_19 : decode cX7_restore 19 = .ok (.iand, 1) := by decide +kernel
theorem dX7_restore_20 : decode cX7_restore 20 = .ok (.ifCond .ne 6, 3) := by decide +kernel
theorem dX7_restore_23 : decode cX7_restore 23 = .ok (.bipush (-3), 2) := by decide +kernel
theorem dX7_restore_25 : decode cX7_restore 25 = .ok (.ireturn, 1) := by decide +kernel
theorem dX7_restore_26 : decode cX7_restore 26 = .ok (.aload_n 0, 1) := by decide +kernel
theorem dX7_restore_27 : decode cX7_restore 27 = .ok (.getfield 10, 3) := by decide +kernel
theorem dX7_restore_30 : decode cX7_restore 30 = .ok (.aload_n 0, 1) := by decide +kernel
theorem dX7_restore_31 : decode cX7_restore 31 = .ok (.iload_n 1, 1) := by decide +kernel
theorem dX7_restore_32 : decode cX7_restore 32 = .ok (.invokevirtual 170, 3) := by decide +kernel
theorem dX7_restore_35 : decode cX7_restore 35 = .ok (.invokevirtual 174, 3) := by decide +kernel
theorem dX7_restore_38 : decode cX7_restore 38 = .ok (.iconst 1, 1) := by decide +kernel
theorem dX7_restore_39 : decode cX7_restore 39 = .ok (.ireturn, 1) := by decide +kernel
theorem dX7_imageOf_0 : decode cX7_imageOf 0 = .ok (.iload_n 1, 1) := by decide +kernel
theorem dX7_imageOf_1 : decode cX7_imageOf 1 = .ok (.ifCond .ne 10, 3) := by decide +kernel
theorem dX7_imageOf_4 : decode cX7_imageOf 4 = .ok (.aload_n 0, 1) := by decide +kernel
theorem dX7_imageOf_5 : decode cX7_imageOf 5 = .ok (.getfield 16, 3) := by decide +kernel
theorem dX7_imageOf_8 : decode cX7_imageOf 8 = .ok (.goto 7, 3) := by decide +kernel
theorem dX7_imageOf_11 : decode cX7_imageOf 11 = .ok (.aload_n 0, 1) := by decide +kernel
theorem dX7_imageOf_12 : decode cX7_imageOf 12 = .ok (.getfield 19, 3) := by decide +kernel
theorem dX7_imageOf_15 : decode cX7_imageOf 15 = .ok (.areturn, 1) := by decide +kernel
theorem dX7_wholeItems_0 : decode cX7_wholeItems 0 = .ok (.iconst 0, 1) := by decide +kernel
theorem dX7_wholeItems_1 : decode cX7_wholeItems 1 = .ok (.istore_n 1, 1) := by decide +kernel
theorem dX7_wholeItems_2 : decode cX7_wholeItems 2 = .ok (.iconst 0, 1) := by decide +kernel
theorem dX7_wholeItems_3 : decode cX7_wholeItems 3 = .ok (.istore_n 2, 1) := by decide +kernel
theorem dX7_wholeItems_4 : decode cX7_wholeItems 4 = .ok (.iload_n 1, 1) := by decide +kernel
theorem dX7_wholeItems_5 : decode cX7_wholeItems 5 = .ok (.bipush 96, 2) := by decide +kernel
theorem dX7_wholeItems_7 : decode cX7_wholeItems 7 = .ok (.if_icmp .ge 35, 3) := by decide +kernel
theorem dX7_wholeItems_10 : decode cX7_wholeItems 10 = .ok (.aload_n 0, 1) := by decide +kernel
theorem dX7_wholeItems_11 : decode cX7_wholeItems 11 = .ok (.getfield 32, 3) := by decide +kernel
theorem dX7_wholeItems_14 : decode cX7_wholeItems 14 = .ok (.aload_n 0, 1) := by decide +kernel
theorem dX7_wholeItems_15 : decode cX7_wholeItems 15 = .ok (.getfield 10, 3) := by decide +kernel
theorem dX7_wholeItems_18 : decode cX7_wholeItems 18 = .ok (.getfield 44, 3) := by decide +kernel
theorem dX7_wholeItems_21 : decode cX7_wholeItems 21 = .ok (.iload_n 2, 1) := by decide +kernel
theorem dX7_wholeItems_22 : decode cX7_wholeItems 22 = .ok (.invokevirtual 178, 3) := by decide +kernel
theorem dX7_wholeItems_25 : decode cX7_wholeItems 25 = .ok (.ifCond .eq 17, 3) := by decide +kernel
theorem dX7_wholeItems_28 : decode cX7_wholeItems 28 = .ok (.iinc 1 1, 3) := by decide +kernel
theorem dX7_wholeItems_31 : decode cX7_wholeItems 31 = .ok (.aload_n 0, 1) := by decide +kernel
theorem dX7_wholeItems_32 : decode cX7_wholeItems 32 = .ok (.getfield 32, 3) := by decide +kernel
theorem dX7_wholeItems_35 : decode cX7_wholeItems 35 = .ok (.invokevirtual 182, 3) := by decide +kernel
theorem dX7_wholeItems_38 : decode cX7_wholeItems 38 = .ok (.istore_n 2, 1) := by decide +kernel
theorem dX7_wholeItems_39 : decode cX7_wholeItems 39 = .ok (.goto (-35), 3) := by decide +kernel
theorem dX7_wholeItems_42 : decode cX7_wholeItems 42 = .ok (.iload_n 1, 1) := by decide +kernel
theorem dX7_wholeItems_43 : decode cX7_wholeItems 43 = .ok (.ireturn, 1) := by decide +kernel
theorem dX7_findItem_0 : decode cX7_findItem 0 = .ok (.iload_n 1, 1) := by decide +kernel
theorem dX7_findItem_1 : decode cX7_findItem 1 = .ok (.iconst 0, 1) := by decide +kernel
theorem dX7_findItem_2 : decode cX7_findItem 2 = .ok (.bipush 95, 2) := by decide +kernel
theorem dX7_findItem_4 : decode cX7_findItem 4 = .ok (.invokestatic 40, 3) := by decide +kernel
theorem dX7_findItem_7 : decode cX7_findItem 7 = .ok (.ifCond .ne 5, 3) := by decide +kernel
theorem dX7_findItem_10 : decode cX7_findItem 10 = .ok (.iconst 0, 1) := by decide +kernel
theorem dX7_findItem_11 : decode cX7_findItem 11 = .ok (.ireturn, 1) := by decide +kernel
theorem dX7_findItem_12 : decode cX7_findItem 12 = .ok (.aload_n 0, 1) := by decide +kernel
theorem dX7_findItem_13 : decode cX7_findItem 13 = .ok (.getfield 32, 3) := by decide +kernel
theorem dX7_findItem_16 : decode cX7_findItem 16 = .ok (.aload_n 0, 1) := by decide +kernel
theorem dX7_findItem_17 : decode cX7_findItem 17 = .ok (.getfield 10, 3) := by decide +kernel
theorem dX7_findItem_20 : decode cX7_findItem 20 = .ok (.getfield 44, 3) := by decide +kernel
theorem dX7_findItem_23 : decode cX7_findItem 23 = .ok (.iconst 0, 1) := by decide +kernel
theorem dX7_findItem_24 : decode cX7_findItem 24 = .ok (.invokevirtual 178, 3) := by decide +kernel
theorem dX7_findItem_27 : decode cX7_findItem 27 = .ok (.istore_n 2, 1) := by decide +kernel
theorem dX7_findItem_28 : decode cX7_findItem 28 = .ok (.iconst 0, 1) := by decide +kernel
theorem dX7_findItem_29 : decode cX7_findItem 29 = .ok (.istore_n 3, 1) := by decide +kernel
theorem dX7_findItem_30 : decode cX7_findItem 30 = .ok (.iload_n 3, 1) := by decide +kernel
theorem dX7_findItem_31 : decode cX7_findItem 31 = .ok (.iload_n 1, 1) := by decide +kernel
theorem dX7_findItem_32 : decode cX7_findItem 32 = .ok (.if_icmp .ge 35, 3) := by decide +kernel
theorem dX7_findItem_35 : decode cX7_findItem 35 = .ok (.iload_n 2, 1) := by decide +kernel
theorem dX7_findItem_36 : decode cX7_findItem 36 = .ok (.ifCond .eq 31, 3) := by decide +kernel
theorem dX7_findItem_39 : decode cX7_findItem 39 = .ok (.aload_n 0, 1) := by decide +kernel
theorem dX7_findItem_40 : decode cX7_findItem 40 = .ok (.getfield 32, 3) := by decide +kernel
theorem dX7_findItem_43 : decode cX7_findItem 43 = .ok (.aload_n 0, 1) := by decide +kernel
theorem dX7_findItem_44 : decode cX7_findItem 44 = .ok (.getfield 10, 3) := by decide +kernel
theorem dX7_findItem_47 : decode cX7_findItem 47 = .ok (.getfield 44, 3) := by decide +kernel
theorem dX7_findItem_50 : decode cX7_findItem 50 = .ok (.aload_n 0, 1) := by decide +kernel
theorem dX7_findItem_51 : decode cX7_findItem 51 = .ok (.getfield 32, 3) := by decide +kernel
theorem dX7_findItem_54 : decode cX7_findItem 54 = .ok (.invokevirtual 182, 3) := by decide +kernel
theorem dX7_findItem_57 : decode cX7_findItem 57 = .ok (.invokevirtual 178, 3) := by decide +kernel
theorem dX7_findItem_60 : decode cX7_findItem 60 = .ok (.istore_n 2, 1) := by decide +kernel
theorem dX7_findItem_61 : decode cX7_findItem 61 = .ok (.iinc 3 1, 3) := by decide +kernel
theorem dX7_findItem_64 : decode cX7_findItem 64 = .ok (.goto (-34), 3) := by decide +kernel
theorem dX7_findItem_67 : decode cX7_findItem 67 = .ok (.iload_n 2, 1) := by decide +kernel
theorem dX7_findItem_68 : decode cX7_findItem 68 = .ok (.ireturn, 1) := by decide +kernel
theorem dX7_isWithin_0 : decode cX7_isWithin 0 = .ok (.iload_n 0, 1) := by decide +kernel
theorem dX7_isWithin_1 : decode cX7_isWithin 1 = .ok (.iload_n 1, 1) := by decide +kernel
theorem dX7_isWithin_2 : decode cX7_isWithin 2 = .ok (.if_icmp .lt 12, 3) := by decide +kernel
theorem dX7_isWithin_5 : decode cX7_isWithin 5 = .ok (.iload_n 0, 1) := by decide +kernel
theorem dX7_isWithin_6 : decode cX7_isWithin 6 = .ok (.iload_n 2, 1) := by decide +kernel
theorem dX7_isWithin_7 : decode cX7_isWithin 7 = .ok (.if_icmp .gt 7, 3) := by decide +kernel
theorem dX7_isWithin_10 : decode cX7_isWithin 10 = .ok (.iconst 1, 1) := by decide +kernel
theorem dX7_isWithin_11 : decode cX7_isWithin 11 = .ok (.goto 4, 3) := by decide +kernel
theorem dX7_isWithin_14 : decode cX7_isWithin 14 = .ok (.iconst 0, 1) := by decide +kernel
theorem dX7_isWithin_15 : decode cX7_isWithin 15 = .ok (.ireturn, 1) := by decide +kernel
theorem dX7_bytesFor_0 : decode cX7_bytesFor 0 = .ok (.iload_n 0, 1) := by decide +kernel
theorem dX7_bytesFor_1 : decode cX7_bytesFor 1 = .ok (.bipush 7, 2) := by decide +kernel
theorem dX7_bytesFor_3 : decode cX7_bytesFor 3 = .ok (.iadd, 1) := by decide +kernel
theorem dX7_bytesFor_4 : decode cX7_bytesFor 4 = .ok (.bipush 8, 2) := by decide +kernel
theorem dX7_bytesFor_6 : decode cX7_bytesFor 6 = .ok (.idiv, 1) := by decide +kernel
theorem dX7_bytesFor_7 : decode cX7_bytesFor 7 = .ok (.ireturn, 1) := by decide +kernel
theorem dX7_signed_0 : decode cX7_signed 0 = .ok (.iload_n 1, 1) := by decide +kernel
theorem dX7_signed_1 : decode cX7_signed 1 = .ok (.iconst 1, 1) := by decide +kernel
theorem dX7_signed_2 : decode cX7_signed 2 = .ok (.bipush 31, 2) := by decide +kernel
theorem dX7_signed_4 : decode cX7_signed 4 = .ok (.invokestatic 40, 3) := by decide +kernel
theorem dX7_signed_7 : decode cX7_signed 7 = .ok (.ifCond .ne 5, 3) := by decide +kernel
theorem dX7_signed_10 : decode cX7_signed 10 = .ok (.iload_n 0, 1) := by decide +kernel
theorem dX7_signed_11 : decode cX7_signed 11 = .ok (.ireturn, 1) := by decide +kernel
theorem dX7_signed_12 : decode cX7_signed 12 = .ok (.bipush 32, 2) := by decide +kernel
theorem dX7_signed_14 : decode cX7_signed 14 = .ok (.iload_n 1, 1) := by decide +kernel
theorem dX7_signed_15 : decode cX7_signed 15 = .ok (.isub, 1) := by decide +kernel
theorem dX7_signed_16 : decode cX7_signed 16 = .ok (.istore_n 2, 1) := by decide +kernel
theorem dX7_signed_17 : decode cX7_signed 17 = .ok (.iload_n 0, 1) := by decide +kernel
theorem dX7_signed_18 : decode cX7_signed 18 = .ok (.iload_n 2, 1) := by decide +kernel
theorem dX7_signed_19 : decode cX7_signed 19 = .ok (.ishl, 1) := by decide +kernel
theorem dX7_signed_20 : decode cX7_signed 20 = .ok (.iload_n 2, 1) := by decide +kernel
theorem dX7_signed_21 : decode cX7_signed 21 = .ok (.ishr, 1) := by decide +kernel
theorem dX7_signed_22 : decode cX7_signed 22 = .ok (.ireturn, 1) := by decide +kernel
