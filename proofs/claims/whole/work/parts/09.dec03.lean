theorem dX2_goThrough_0 : decode cX2_goThrough 0 = .ok (.aload_n 0, 1) := by decide +kernel
theorem dX2_goThrough_1 : decode cX2_goThrough 1 = .ok (.invokevirtual 43, 3) := by decide +kernel
theorem dX2_goThrough_4 : decode cX2_goThrough 4 = .ok (.iconst 0, 1) := by decide +kernel
theorem dX2_goThrough_5 : decode cX2_goThrough 5 = .ok (.istore_n 2, 1) := by decide +kernel
theorem dX2_goThrough_6 : decode cX2_goThrough 6 = .ok (.iconst 0, 1) := by decide +kernel
theorem dX2_goThrough_7 : decode cX2_goThrough 7 = .ok (.istore_n 3, 1) := by decide +kernel
theorem dX2_goThrough_8 : decode cX2_goThrough 8 = .ok (.iload_n 3, 1) := by decide +kernel
theorem dX2_goThrough_9 : decode cX2_goThrough 9 = .ok (.bipush 96, 2) := by decide +kernel
theorem dX2_goThrough_11 : decode cX2_goThrough 11 = .ok (.if_icmp .ge 68, 3) := by decide +kernel
theorem dX2_goThrough_14 : decode cX2_goThrough 14 = .ok (.iload_n 2, 1) := by decide +kernel
theorem dX2_goThrough_15 : decode cX2_goThrough 15 = .ok (.aload_n 1, 1) := by decide +kernel
theorem dX2_goThrough_16 : decode cX2_goThrough 16 = .ok (.invokevirtual 46, 3) := by decide +kernel
theorem dX2_goThrough_19 : decode cX2_goThrough 19 = .ok (.if_icmp .ge 60, 3) := by decide +kernel
theorem dX2_goThrough_22 : decode cX2_goThrough 22 = .ok (.aload_n 0, 1) := by decide +kernel
theorem dX2_goThrough_23 : decode cX2_goThrough 23 = .ok (.getfield 21, 3) := by decide +kernel
theorem dX2_goThrough_26 : decode cX2_goThrough 26 = .ok (.aload_n 1, 1) := by decide +kernel
theorem dX2_goThrough_27 : decode cX2_goThrough 27 = .ok (.iload_n 2, 1) := by decide +kernel
theorem dX2_goThrough_28 : decode cX2_goThrough 28 = .ok (.invokevirtual 50, 3) := by decide +kernel
theorem dX2_goThrough_31 : decode cX2_goThrough 31 = .ok (.istore 4, 2) := by decide +kernel
theorem dX2_goThrough_33 : decode cX2_goThrough 33 = .ok (.iload 4, 2) := by decide +kernel
theorem dX2_goThrough_35 : decode cX2_goThrough 35 = .ok (.ifCond .eq 10, 3) := by decide +kernel
theorem dX2_goThrough_38 : decode cX2_goThrough 38 = .ok (.aload_n 0, 1) := by decide +kernel
theorem dX2_goThrough_39 : decode cX2_goThrough 39 = .ok (.invokevirtual 54, 3) := by decide +kernel
theorem dX2_goThrough_42 : decode cX2_goThrough 42 = .ok (.goto 4, 3) := by decide +kernel
theorem dX2_goThrough_45 : decode cX2_goThrough 45 = .ok (.iconst 1, 1) := by decide +kernel
theorem dX2_goThrough_46 : decode cX2_goThrough 46 = .ok (.istore 5, 2) := by decide +kernel
theorem dX2_goThrough_48 : decode cX2_goThrough 48 = .ok (.iload 5, 2) := by decide +kernel
theorem dX2_goThrough_50 : decode cX2_goThrough 50 = .ok (.ifCond .eq 11, 3) := by decide +kernel
theorem dX2_goThrough_53 : decode cX2_goThrough 53 = .ok (.aload_n 0, 1) := by decide +kernel
theorem dX2_goThrough_54 : decode cX2_goThrough 54 = .ok (.iload 5, 2) := by decide +kernel
theorem dX2_goThrough_56 : decode cX2_goThrough 56 = .ok (.iload_n 2, 1) := by decide +kernel
theorem dX2_goThrough_57 : decode cX2_goThrough 57 = .ok (.invokevirtual 57, 3) := by decide +kernel
theorem dX2_goThrough_60 : decode cX2_goThrough 60 = .ok (.return_, 1) := by decide +kernel
theorem dX2_goThrough_61 : decode cX2_goThrough 61 = .ok (.aload_n 0, 1) := by decide +kernel
theorem dX2_goThrough_62 : decode cX2_goThrough 62 = .ok (.invokevirtual 60, 3) := by decide +kernel
theorem dX2_goThrough_65 : decode cX2_goThrough 65 = .ok (.aload_n 0, 1) := by decide +kernel
theorem dX2_goThrough_66 : decode cX2_goThrough 66 = .ok (.getfield 21, 3) := by decide +kernel
theorem dX2_goThrough_69 : decode cX2_goThrough 69 = .ok (.invokevirtual 63, 3) := by decide +kernel
theorem dX2_goThrough_72 : decode cX2_goThrough 72 = .ok (.istore_n 2, 1) := by decide +kernel
theorem dX2_goThrough_73 : decode cX2_goThrough 73 = .ok (.iinc 3 1, 3) := by decide +kernel
theorem dX2_goThrough_76 : decode cX2_goThrough 76 = .ok (.goto (-68), 3) := by decide +kernel
theorem dX2_goThrough_79 : decode cX2_goThrough 79 = .ok (.aload_n 0, 1) := by decide +kernel
theorem dX2_goThrough_80 : decode cX2_goThrough 80 = .ok (.aload_n 0, 1) := by decide +kernel
theorem dX2_goThrough_81 : decode cX2_goThrough 81 = .ok (.invokevirtual 66, 3) := by decide +kernel
theorem dX2_goThrough_84 : decode cX2_goThrough 84 = .ok (.aload_n 1, 1) := by decide +kernel
theorem dX2_goThrough_85 : decode cX2_goThrough 85 = .ok (.invokevirtual 46, 3) := by decide +kernel
theorem dX2_goThrough_88 : decode cX2_goThrough 88 = .ok (.invokevirtual 57, 3) := by decide +kernel
theorem dX2_goThrough_91 : decode cX2_goThrough 91 = .ok (.return_, 1) := by decide +kernel
theorem dX2_begin_0 : decode cX2_begin 0 = .ok (.aload_n 0, 1) := by decide +kernel
theorem dX2_begin_1 : decode cX2_begin 1 = .ok (.getfield 12, 3) := by decide +kernel
theorem dX2_begin_4 : decode cX2_begin 4 = .ok (.invokevirtual 69, 3) := by decide +kernel
theorem dX2_begin_7 : decode cX2_begin 7 = .ok (.aload_n 0, 1) := by decide +kernel
theorem dX2_begin_8 : decode cX2_begin 8 = .ok (.getfield 30, 3) := by decide +kernel
theorem dX2_begin_11 : decode cX2_begin 11 = .ok (.invokevirtual 72, 3) := by decide +kernel
theorem dX2_begin_14 : decode cX2_begin 14 = .ok (.aload_n 0, 1) := by decide +kernel
theorem dX2_begin_15 : decode cX2_begin 15 = .ok (.iconst 0, 1) := by decide +kernel
theorem dX2_begin_16 : decode cX2_begin 16 = .ok (.putfield 73, 3) := by decide +kernel
theorem dX2_begin_19 : decode cX2_begin 19 = .ok (.aload_n 0, 1) := by decide +kernel
theorem dX2_begin_20 : decode cX2_begin 20 = .ok (.iconst 0, 1) := by decide +kernel
theorem dX2_begin_21 : decode cX2_begin 21 = .ok (.putfield 77, 3) := by decide +kernel
theorem dX2_begin_24 : decode cX2_begin 24 = .ok (.aload_n 0, 1) := by decide +kernel
theorem dX2_begin_25 : decode cX2_begin 25 = .ok (.iconst 0, 1) := by decide +kernel
theorem dX2_begin_26 : decode cX2_begin 26 = .ok (.putfield 80, 3) := by decide +kernel
theorem dX2_begin_29 : decode cX2_begin 29 = .ok (.aload_n 0, 1) := by decide +kernel
theorem dX2_begin_30 : decode cX2_begin 30 = .ok (.iconst 0, 1) := by decide +kernel
theorem dX2_begin_31 : decode cX2_begin 31 = .ok (.putfield 83, 3) := by decide +kernel
theorem dX2_begin_34 : decode cX2_begin 34 = .ok (.aload_n 0, 1) := by decide +kernel
theorem dX2_begin_35 : decode cX2_begin 35 = .ok (.iconst 0, 1) := by decide +kernel
theorem dX2_begin_36 : decode cX2_begin 36 = .ok (.putfield 85, 3) := by decide +kernel
theorem dX2_begin_39 : decode cX2_begin 39 = .ok (.aload_n 0, 1) := by decide +kernel
theorem dX2_begin_40 : decode cX2_begin 40 = .ok (.iconst 0, 1) := by decide +kernel
theorem dX2_begin_41 : decode cX2_begin 41 = .ok (.putfield 88, 3) := by decide +kernel
theorem dX2_begin_44 : decode cX2_begin 44 = .ok (.aload_n 0, 1) := by decide +kernel
theorem dX2_begin_45 : decode cX2_begin 45 = .ok (.bipush (-6), 2) := by decide +kernel
theorem dX2_begin_47 : decode cX2_begin 47 = .ok (.putfield 91, 3) := by decide +kernel
theorem dX2_begin_50 : decode cX2_begin 50 = .ok (.aload_n 0, 1) := by decide +kernel
theorem dX2_begin_51 : decode cX2_begin 51 = .ok (.invokevirtual 94, 3) := by decide +kernel
theorem dX2_begin_54 : decode cX2_begin 54 = .ok (.return_, 1) := by decide +kernel
theorem dX2_forgetUses_0 : decode cX2_forgetUses 0 = .ok (.aload_n 0, 1) := by decide +kernel
theorem dX2_forgetUses_1 : decode cX2_forgetUses 1 = .ok (.getfield 39, 3) := by decide +kernel
theorem dX2_forgetUses_4 : decode cX2_forgetUses 4 = .ok (.invokevirtual 97, 3) := by decide +kernel
theorem dX2_forgetUses_7 : decode cX2_forgetUses 7 = .ok (.aload_n 0, 1) := by decide +kernel
theorem dX2_forgetUses_8 : decode cX2_forgetUses 8 = .ok (.iconst 0, 1) := by decide +kernel
theorem dX2_forgetUses_9 : decode cX2_forgetUses 9 = .ok (.putfield 98, 3) := by decide +kernel
theorem dX2_forgetUses_12 : decode cX2_forgetUses 12 = .ok (.return_, 1) := by decide +kernel
theorem dX2_tellFault_0 : decode cX2_tellFault 0 = .ok (.aload_n 0, 1) := by decide +kernel
theorem dX2_tellFault_1 : decode cX2_tellFault 1 = .ok (.iload_n 1, 1) := by decide +kernel
theorem dX2_tellFault_2 : decode cX2_tellFault 2 = .ok (.putfield 101, 3) := by decide +kernel
theorem dX2_tellFault_5 : decode cX2_tellFault 5 = .ok (.aload_n 0, 1) := by decide +kernel
theorem dX2_tellFault_6 : decode cX2_tellFault 6 = .ok (.iload_n 1, 1) := by decide +kernel
theorem dX2_tellFault_7 : decode cX2_tellFault 7 = .ok (.ifCond .ne 8, 3) := by decide +kernel
theorem dX2_tellFault_10 : decode cX2_tellFault 10 = .ok (.bipush (-6), 2) := by decide +kernel
theorem dX2_tellFault_12 : decode cX2_tellFault 12 = .ok (.goto 4, 3) := by decide +kernel
theorem dX2_tellFault_15 : decode cX2_tellFault 15 = .ok (.iload_n 2, 1) := by decide +kernel
theorem dX2_tellFault_16 : decode cX2_tellFault 16 = .ok (.putfield 104, 3) := by decide +kernel
theorem dX2_tellFault_19 : decode cX2_tellFault 19 = .ok (.return_, 1) := by decide +kernel
theorem dX2_faultOfItem_0 : decode cX2_faultOfItem 0 = .ok (.aload_n 0, 1) := by decide +kernel
theorem dX2_faultOfItem_1 : decode cX2_faultOfItem 1 = .ok (.getfield 21, 3) := by decide +kernel
theorem dX2_faultOfItem_4 : decode cX2_faultOfItem 4 = .ok (.getfield 107, 3) := by decide +kernel
theorem dX2_faultOfItem_7 : decode cX2_faultOfItem 7 = .ok (.tableswitch 62 0 2 #[25, 30, 35], 25) := by decide +kernel
theorem dX2_faultOfItem_32 : decode cX2_faultOfItem 32 = .ok (.aload_n 0, 1) := by decide +kernel
theorem dX2_faultOfItem_33 : decode cX2_faultOfItem 33 = .ok (.invokevirtual 110, 3) := by decide +kernel
theorem dX2_faultOfItem_36 : decode cX2_faultOfItem 36 = .ok (.ireturn, 1) := by decide +kernel
theorem dX2_faultOfItem_37 : decode cX2_faultOfItem 37 = .ok (.aload_n 0, 1) := by decide +kernel
theorem dX2_faultOfItem_38 : decode cX2_faultOfItem 38 = .ok (.invokevirtual 113, 3) := by decide +kernel
theorem dX2_faultOfItem_41 : decode cX2_faultOfItem 41 = .ok (.ireturn, 1) := by decide +kernel
theorem dX2_faultOfItem_42 : decode cX2_faultOfItem 42 = .ok (.aload_n 0, 1) := by decide +kernel
theorem dX2_faultOfItem_43 : decode cX2_faultOfItem 43 = .ok (.getfield 39, 3) := by decide +kernel
theorem dX2_faultOfItem_46 : decode cX2_faultOfItem 46 = .ok (.invokevirtual 46, 3) := by decide +kernel
theorem dX2_faultOfItem_49 : decode cX2_faultOfItem 49 = .ok (.i2l, 1) := by decide +kernel
theorem dX2_faultOfItem_50 : decode cX2_faultOfItem 50 = .ok (.aload_n 0, 1) := by decide +kernel
theorem dX2_faultOfItem_51 : decode cX2_faultOfItem 51 = .ok (.invokevirtual 116, 3) := by decide +kernel
theorem dX2_faultOfItem_54 : decode cX2_faultOfItem 54 = .ok (.ladd, 1) := by decide +kernel
theorem dX2_faultOfItem_55 : decode cX2_faultOfItem 55 = .ok (.ldc2_w 120, 3) := by decide +kernel
theorem dX2_faultOfItem_58 : decode cX2_faultOfItem 58 = .ok (.lcmp, 1) := by decide +kernel
theorem dX2_faultOfItem_59 : decode cX2_faultOfItem 59 = .ok (.ifCond .le 8, 3) := by decide +kernel
theorem dX2_faultOfItem_62 : decode cX2_faultOfItem 62 = .ok (.bipush 8, 2) := by decide +kernel
theorem dX2_faultOfItem_64 : decode cX2_faultOfItem 64 = .ok (.goto 4, 3) := by decide +kernel
theorem dX2_faultOfItem_67 : decode cX2_faultOfItem 67 = .ok (.iconst 0, 1) := by decide +kernel
theorem dX2_faultOfItem_68 : decode cX2_faultOfItem 68 = .ok (.ireturn, 1) := by decide +kernel
theorem dX2_faultOfItem_69 : decode cX2_faultOfItem 69 = .ok (.iconst 2, 1) := by decide +kernel
theorem dX2_faultOfItem_70 : decode cX2_faultOfItem 70 = .ok (.ireturn, 1) := by decide +kernel
theorem dX2_faultOfNumberItem_0 : decode cX2_faultOfNumberItem 0 = .ok (.aload_n 0, 1) := by decide +kernel
theorem dX2_faultOfNumberItem_1 : decode cX2_faultOfNumberItem 1 = .ok (.getfield 21, 3) := by decide +kernel
theorem dX2_faultOfNumberItem_4 : decode cX2_faultOfNumberItem 4 = .ok (.getfield 122, 3) := by decide +kernel
theorem dX2_faultOfNumberItem_7 : decode cX2_faultOfNumberItem 7 = .ok (.tableswitch 132 7 11 #[33, 51, 79, 97, 115], 33) := by decide +kernel
theorem dX2_faultOfNumberItem_40 : decode cX2_faultOfNumberItem 40 = .ok (.aload_n 0, 1) := by decide +kernel
theorem dX2_faultOfNumberItem_41 : decode cX2_faultOfNumberItem 41 = .ok (.getfield 21, 3) := by decide +kernel
theorem dX2_faultOfNumberItem_44 : decode cX2_faultOfNumberItem 44 = .ok (.getfield 125, 3) := by decide +kernel
theorem dX2_faultOfNumberItem_47 : decode cX2_faultOfNumberItem 47 = .ok (.bipush 31, 2) := by decide +kernel
theorem dX2_faultOfNumberItem_49 : decode cX2_faultOfNumberItem 49 = .ok (.if_icmp .le 7, 3) := by decide +kernel
theorem dX2_faultOfNumberItem_52 : decode cX2_faultOfNumberItem 52 = .ok (.iconst 3, 1) := by decide +kernel
theorem dX2_faultOfNumberItem_53 : decode cX2_faultOfNumberItem 53 = .ok (.goto 4, 3) := by decide +kernel
theorem dX2_faultOfNumberItem_56 : decode cX2_faultOfNumberItem 56 = .ok (.iconst 0, 1) := by decide +kernel
theorem dX2_faultOfNumberItem_57 : decode cX2_faultOfNumberItem 57 = .ok (.ireturn, 1) := by decide +kernel
theorem dX2_faultOfNumberItem_58 : decode cX2_faultOfNumberItem 58 = .ok (.aload_n 0, 1) := by decide +kernel
theorem dX2_faultOfNumberItem_59 : decode cX2_faultOfNumberItem 59 = .ok (.getfield 21, 3) := by decide +kernel
theorem dX2_faultOfNumberItem_62 : decode cX2_faultOfNumberItem 62 = .ok (.getfield 125, 3) := by decide +kernel
theorem dX2_faultOfNumberItem_65 : decode cX2_faultOfNumberItem 65 = .ok (.ifCond .eq 15, 3) := by decide +kernel
theorem dX2_faultOfNumberItem_68 : decode cX2_faultOfNumberItem 68 = .ok (.aload_n 0, 1) := by decide +kernel
theorem dX2_faultOfNumberItem_69 : decode cX2_faultOfNumberItem 69 = .ok (.getfield 21, 3) := by decide +kernel
theorem dX2_faultOfNumberItem_72 : decode cX2_faultOfNumberItem 72 = .ok (.getfield 125, 3) := by decide +kernel
theorem dX2_faultOfNumberItem_75 : decode cX2_faultOfNumberItem 75 = .ok (.bipush 16, 2) := by decide +kernel
theorem dX2_faultOfNumberItem_77 : decode cX2_faultOfNumberItem 77 = .ok (.if_icmp .lt 7, 3) := by decide +kernel
theorem dX2_faultOfNumberItem_80 : decode cX2_faultOfNumberItem 80 = .ok (.iconst 4, 1) := by decide +kernel
theorem dX2_faultOfNumberItem_81 : decode cX2_faultOfNumberItem 81 = .ok (.goto 4, 3) := by decide +kernel
theorem dX2_faultOfNumberItem_84 : decode cX2_faultOfNumberItem 84 = .ok (.iconst 0, 1) := by decide +kernel
theorem dX2_faultOfNumberItem_85 : decode cX2_faultOfNumberItem 85 = .ok (.ireturn, 1) := by decide +kernel
theorem dX2_faultOfNumberItem_86 : decode cX2_faultOfNumberItem 86 = .ok (.aload_n 0, 1) := by decide +kernel
theorem dX2_faultOfNumberItem_87 : decode cX2_faultOfNumberItem 87 = .ok (.getfield 21, 3) := by decide +kernel
theorem dX2_faultOfNumberItem_90 : decode cX2_faultOfNumberItem 90 = .ok (.getfield 125, 3) := by decide +kernel
theorem dX2_faultOfNumberItem_93 : decode cX2_faultOfNumberItem 93 = .ok (.bipush 40, 2) := by decide +kernel
theorem dX2_faultOfNumberItem_95 : decode cX2_faultOfNumberItem 95 = .ok (.if_icmp .le 7, 3) := by decide +kernel
theorem dX2_faultOfNumberItem_98 : decode cX2_faultOfNumberItem 98 = .ok (.iconst 5, 1) := by decide +kernel
theorem dX2_faultOfNumberItem_99 : decode cX2_faultOfNumberItem 99 = .ok (.goto 4, 3) := by decide +kernel
theorem dX2_faultOfNumberItem_102 : decode cX2_faultOfNumberItem 102 = .ok (.iconst 0, 1) := by decide +kernel
theorem dX2_faultOfNumberItem_103 : decode cX2_faultOfNumberItem 103 = .ok (.ireturn, 1) := by decide +kernel
theorem dX2_faultOfNumberItem_104 : decode cX2_faultOfNumberItem 104 = .ok (.aload_n 0, 1) := by decide +kernel
theorem dX2_faultOfNumberItem_105 : decode cX2_faultOfNumberItem 105 = .ok (.getfield 30, 3) := by decide +kernel
theorem dX2_faultOfNumberItem_108 : decode cX2_faultOfNumberItem 108 = .ok (.invokevirtual 128, 3) := by decide +kernel
theorem dX2_faultOfNumberItem_111 : decode cX2_faultOfNumberItem 111 = .ok (.iconst 4, 1) := by decide +kernel
theorem dX2_faultOfNumberItem_112 : decode cX2_faultOfNumberItem 112 = .ok (.if_icmp .lt 8, 3) := by decide +kernel
theorem dX2_faultOfNumberItem_115 : decode cX2_faultOfNumberItem 115 = .ok (.bipush 6, 2) := by decide +kernel
theorem dX2_faultOfNumberItem_117 : decode cX2_faultOfNumberItem 117 = .ok (.goto 4, 3) := by decide +kernel
theorem dX2_faultOfNumberItem_120 : decode cX2_faultOfNumberItem 120 = .ok (.iconst 0, 1) := by decide +kernel
theorem dX2_faultOfNumberItem_121 : decode cX2_faultOfNumberItem 121 = .ok (.ireturn, 1) := by decide +kernel
theorem dX2_faultOfNumberItem_122 : decode cX2_faultOfNumberItem 122 = .ok (.aload_n 0, 1) := by decide +kernel
theorem dX2_faultOfNumberItem_123 : decode cX2_faultOfNumberItem 123 = .ok (.getfield 30, 3) := by decide +kernel
theorem dX2_faultOfNumberItem_126 : decode cX2_faultOfNumberItem 126 = .ok (.invokevirtual 128, 3) := by decide +kernel
theorem dX2_faultOfNumberItem_129 : decode cX2_faultOfNumberItem 129 = .ok (.ifCond .ne 8, 3) := by decide +kernel
theorem dX2_faultOfNumberItem_132 : decode cX2_faultOfNumberItem 132 = .ok (.bipush 7, 2) := by decide +kernel
theorem dX2_faultOfNumberItem_134 : decode cX2_faultOfNumberItem 134 = .ok (.goto 4, 3) := by decide +kernel
theorem dX2_faultOfNumberItem_137 : decode cX2_faultOfNumberItem 137 = .ok (.iconst 0, 1) := by decide +kernel
theorem dX2_faultOfNumberItem_138 : decode cX2_faultOfNumberItem 138 = .ok (.ireturn, 1) := by decide +kernel
theorem dX2_faultOfNumberItem_139 : decode cX2_faultOfNumberItem 139 = .ok (.iconst 0, 1) := by decide +kernel
theorem dX2_faultOfNumberItem_140 : decode cX2_faultOfNumberItem 140 = .ok (.ireturn, 1) := by decide +kernel
theorem dX2_faultOfShapeItem_0 : decode cX2_faultOfShapeItem 0 = .ok (.aload_n 0, 1) := by decide +kernel
theorem dX2_faultOfShapeItem_1 : decode cX2_faultOfShapeItem 1 = .ok (.getfield 21, 3) := by decide +kernel
theorem dX2_faultOfShapeItem_4 : decode cX2_faultOfShapeItem 4 = .ok (.getfield 122, 3) := by decide +kernel
theorem dX2_faultOfShapeItem_7 : decode cX2_faultOfShapeItem 7 = .ok (.tableswitch 76 8 12 #[33, 33, 38, 33, 60], 33) := by decide +kernel
theorem dX2_faultOfShapeItem_40 : decode cX2_faultOfShapeItem 40 = .ok (.aload_n 0, 1) := by decide +kernel
theorem dX2_faultOfShapeItem_41 : decode cX2_faultOfShapeItem 41 = .ok (.invokevirtual 131, 3) := by decide +kernel
theorem dX2_faultOfShapeItem_44 : decode cX2_faultOfShapeItem 44 = .ok (.ireturn, 1) := by decide +kernel
theorem dX2_faultOfShapeItem_45 : decode cX2_faultOfShapeItem 45 = .ok (.aload_n 0, 1) := by decide +kernel
theorem dX2_faultOfShapeItem_46 : decode cX2_faultOfShapeItem 46 = .ok (.getfield 12, 3) := by decide +kernel
theorem dX2_faultOfShapeItem_49 : decode cX2_faultOfShapeItem 49 = .ok (.getfield 134, 3) := by decide +kernel
theorem dX2_faultOfShapeItem_52 : decode cX2_faultOfShapeItem 52 = .ok (.invokevirtual 128, 3) := by decide +kernel
theorem dX2_faultOfShapeItem_55 : decode cX2_faultOfShapeItem 55 = .ok (.bipush 12, 2) := by decide +kernel
theorem dX2_faultOfShapeItem_57 : decode cX2_faultOfShapeItem 57 = .ok (.if_icmp .lt 8, 3) := by decide +kernel
theorem dX2_faultOfShapeItem_60 : decode cX2_faultOfShapeItem 60 = .ok (.bipush 9, 2) := by decide +kernel
theorem dX2_faultOfShapeItem_62 : decode cX2_faultOfShapeItem 62 = .ok (.goto 4, 3) := by decide +kernel
theorem dX2_faultOfShapeItem_65 : decode cX2_faultOfShapeItem 65 = .ok (.iconst 0, 1) := by decide +kernel
theorem dX2_faultOfShapeItem_66 : decode cX2_faultOfShapeItem 66 = .ok (.ireturn, 1) := by decide +kernel
theorem dX2_faultOfShapeItem_67 : decode cX2_faultOfShapeItem 67 = .ok (.aload_n 0, 1) := by decide +kernel
theorem dX2_faultOfShapeItem_68 : decode cX2_faultOfShapeItem 68 = .ok (.getfield 91, 3) := by decide +kernel
theorem dX2_faultOfShapeItem_71 : decode cX2_faultOfShapeItem 71 = .ok (.bipush (-6), 2) := by decide +kernel
theorem dX2_faultOfShapeItem_73 : decode cX2_faultOfShapeItem 73 = .ok (.if_icmp .ne 8, 3) := by decide +kernel
theorem dX2_faultOfShapeItem_76 : decode cX2_faultOfShapeItem 76 = .ok (.bipush 10, 2) := by decide +kernel
theorem dX2_faultOfShapeItem_78 : decode cX2_faultOfShapeItem 78 = .ok (.goto 4, 3) := by decide +kernel
theorem dX2_faultOfShapeItem_81 : decode cX2_faultOfShapeItem 81 = .ok (.iconst 0, 1) := by decide +kernel
theorem dX2_faultOfShapeItem_82 : decode cX2_faultOfShapeItem 82 = .ok (.ireturn, 1) := by decide +kernel
theorem dX2_faultOfShapeItem_83 : decode cX2_faultOfShapeItem 83 = .ok (.iconst 2, 1) := by decide +kernel
theorem dX2_faultOfShapeItem_84 : decode cX2_faultOfShapeItem 84 = .ok (.ireturn, 1) := by decide +kernel
theorem dX2_faultOfFields_0 : decode cX2_faultOfFields 0 = .ok (.aload_n 0, 1) := by decide +kernel
theorem dX2_faultOfFields_1 : decode cX2_faultOfFields 1 = .ok (.getfield 83, 3) := by decide +kernel
theorem dX2_faultOfFields_4 : decode cX2_faultOfFields 4 = .ok (.ifCond .eq 10, 3) := by decide +kernel
theorem dX2_faultOfFields_7 : decode cX2_faultOfFields 7 = .ok (.aload_n 0, 1) := by decide +kernel
theorem dX2_faultOfFields_8 : decode cX2_faultOfFields 8 = .ok (.getfield 88, 3) := by decide +kernel
theorem dX2_faultOfFields_11 : decode cX2_faultOfFields 11 = .ok (.ifCond .ne 6, 3) := by decide +kernel
theorem dX2_faultOfFields_14 : decode cX2_faultOfFields 14 = .ok (.bipush 11, 2) := by decide +kernel
theorem dX2_faultOfFields_16 : decode cX2_faultOfFields 16 = .ok (.ireturn, 1) := by decide +kernel
theorem dX2_faultOfFields_17 : decode cX2_faultOfFields 17 = .ok (.aload_n 0, 1) := by decide +kernel
theorem dX2_faultOfFields_18 : decode cX2_faultOfFields 18 = .ok (.getfield 77, 3) := by decide +kernel
theorem dX2_faultOfFields_21 : decode cX2_faultOfFields 21 = .ok (.aload_n 0, 1) := by decide +kernel
theorem dX2_faultOfFields_22 : decode cX2_faultOfFields 22 = .ok (.getfield 80, 3) := by decide +kernel
theorem dX2_faultOfFields_25 : decode cX2_faultOfFields 25 = .ok (.if_icmp .le 13, 3) := by decide +kernel
theorem dX2_faultOfFields_28 : decode cX2_faultOfFields 28 = .ok (.aload_n 0, 1) := by decide +kernel
theorem dX2_faultOfFields_29 : decode cX2_faultOfFields 29 = .ok (.invokevirtual 137, 3) := by decide +kernel
theorem dX2_faultOfFields_32 : decode cX2_faultOfFields 32 = .ok (.ifCond .eq 6, 3) := by decide +kernel
theorem dX2_faultOfFields_35 : decode cX2_faultOfFields 35 = .ok (.bipush 12, 2) := by decide +kernel
theorem dX2_faultOfFields_37 : decode cX2_faultOfFields 37 = .ok (.ireturn, 1) := by decide +kernel
theorem dX2_faultOfFields_38 : decode cX2_faultOfFields 38 = .ok (.aload_n 0, 1) := by decide +kernel
theorem dX2_faultOfFields_39 : decode cX2_faultOfFields 39 = .ok (.getfield 12, 3) := by decide +kernel
theorem dX2_faultOfFields_42 : decode cX2_faultOfFields 42 = .ok (.aload_n 0, 1) := by decide +kernel
theorem dX2_faultOfFields_43 : decode cX2_faultOfFields 43 = .ok (.invokevirtual 141, 3) := by decide +kernel
theorem dX2_faultOfFields_46 : decode cX2_faultOfFields 46 = .ok (.aload_n 0, 1) := by decide +kernel
theorem dX2_faultOfFields_47 : decode cX2_faultOfFields 47 = .ok (.getfield 85, 3) := by decide +kernel
theorem dX2_faultOfFields_50 : decode cX2_faultOfFields 50 = .ok (.invokevirtual 144, 3) := by decide +kernel
theorem dX2_faultOfFields_53 : decode cX2_faultOfFields 53 = .ok (.aload_n 0, 1) := by decide +kernel
theorem dX2_faultOfFields_54 : decode cX2_faultOfFields 54 = .ok (.getfield 88, 3) := by decide +kernel
theorem dX2_faultOfFields_57 : decode cX2_faultOfFields 57 = .ok (.aload_n 0, 1) := by decide +kernel
theorem dX2_faultOfFields_58 : decode cX2_faultOfFields 58 = .ok (.getfield 83, 3) := by decide +kernel
theorem dX2_faultOfFields_61 : decode cX2_faultOfFields 61 = .ok (.imul, 1) := by decide +kernel
theorem dX2_faultOfFields_62 : decode cX2_faultOfFields 62 = .ok (.iadd, 1) := by decide +kernel
theorem dX2_faultOfFields_63 : decode cX2_faultOfFields 63 = .ok (.sipush 256, 3) := by decide +kernel
theorem dX2_faultOfFields_66 : decode cX2_faultOfFields 66 = .ok (.if_icmp .le 6, 3) := by decide +kernel
theorem dX2_faultOfFields_69 : decode cX2_faultOfFields 69 = .ok (.bipush 13, 2) := by decide +kernel
theorem dX2_faultOfFields_71 : decode cX2_faultOfFields 71 = .ok (.ireturn, 1) := by decide +kernel
theorem dX2_faultOfFields_72 : decode cX2_faultOfFields 72 = .ok (.aload_n 0, 1) := by decide +kernel
theorem dX2_faultOfFields_73 : decode cX2_faultOfFields 73 = .ok (.invokevirtual 137, 3) := by decide +kernel
theorem dX2_faultOfFields_76 : decode cX2_faultOfFields 76 = .ok (.ifCond .eq 28, 3) := by decide +kernel
theorem dX2_faultOfFields_79 : decode cX2_faultOfFields 79 = .ok (.aload_n 0, 1) := by decide +kernel
theorem dX2_faultOfFields_80 : decode cX2_faultOfFields 80 = .ok (.getfield 12, 3) := by decide +kernel
theorem dX2_faultOfFields_83 : decode cX2_faultOfFields 83 = .ok (.getfield 148, 3) := by decide +kernel
theorem dX2_faultOfFields_86 : decode cX2_faultOfFields 86 = .ok (.invokevirtual 128, 3) := by decide +kernel
theorem dX2_faultOfFields_89 : decode cX2_faultOfFields 89 = .ok (.aload_n 0, 1) := by decide +kernel
theorem dX2_faultOfFields_90 : decode cX2_faultOfFields 90 = .ok (.getfield 88, 3) := by decide +kernel
theorem dX2_faultOfFields_93 : decode cX2_faultOfFields 93 = .ok (.iadd, 1) := by decide +kernel
theorem dX2_faultOfFields_94 : decode cX2_faultOfFields 94 = .ok (.bipush 48, 2) := by decide +kernel
theorem dX2_faultOfFields_96 : decode cX2_faultOfFields 96 = .ok (.if_icmp .le 8, 3) := by decide +kernel
theorem dX2_faultOfFields_99 : decode cX2_faultOfFields 99 = .ok (.bipush 14, 2) := by decide +kernel
theorem dX2_faultOfFields_101 : decode cX2_faultOfFields 101 = .ok (.goto 4, 3) := by decide +kernel
theorem dX2_faultOfFields_104 : decode cX2_faultOfFields 104 = .ok (.iconst 0, 1) := by decide +kernel
theorem dX2_faultOfFields_105 : decode cX2_faultOfFields 105 = .ok (.ireturn, 1) := by decide +kernel
theorem dX2_faultOfWhole_0 : decode cX2_faultOfWhole 0 = .ok (.aload_n 0, 1) := by decide +kernel
theorem dX2_faultOfWhole_1 : decode cX2_faultOfWhole 1 = .ok (.getfield 91, 3) := by decide +kernel
theorem dX2_faultOfWhole_4 : decode cX2_faultOfWhole 4 = .ok (.bipush (-6), 2) := by decide +kernel
theorem dX2_faultOfWhole_6 : decode cX2_faultOfWhole 6 = .ok (.if_icmp .eq 6, 3) := by decide +kernel
theorem dX2_faultOfWhole_9 : decode cX2_faultOfWhole 9 = .ok (.bipush 15, 2) := by decide +kernel
theorem dX2_faultOfWhole_11 : decode cX2_faultOfWhole 11 = .ok (.ireturn, 1) := by decide +kernel
theorem dX2_faultOfWhole_12 : decode cX2_faultOfWhole 12 = .ok (.aload_n 0, 1) := by decide +kernel
theorem dX2_faultOfWhole_13 : decode cX2_faultOfWhole 13 = .ok (.getfield 12, 3) := by decide +kernel
theorem dX2_faultOfWhole_16 : decode cX2_faultOfWhole 16 = .ok (.invokevirtual 151, 3) := by decide +kernel
theorem dX2_faultOfWhole_19 : decode cX2_faultOfWhole 19 = .ok (.ifCond .eq 18, 3) := by decide +kernel
theorem dX2_faultOfWhole_22 : decode cX2_faultOfWhole 22 = .ok (.aload_n 0, 1) := by decide +kernel
theorem dX2_faultOfWhole_23 : decode cX2_faultOfWhole 23 = .ok (.getfield 12, 3) := by decide +kernel
theorem dX2_faultOfWhole_26 : decode cX2_faultOfWhole 26 = .ok (.invokevirtual 154, 3) := by decide +kernel
theorem dX2_faultOfWhole_29 : decode cX2_faultOfWhole 29 = .ok (.ifCond .eq 8, 3) := by decide +kernel
theorem dX2_faultOfWhole_32 : decode cX2_faultOfWhole 32 = .ok (.bipush 16, 2) := by decide +kernel
theorem dX2_faultOfWhole_34 : decode cX2_faultOfWhole 34 = .ok (.goto 4, 3) := by decide +kernel
theorem dX2_faultOfWhole_37 : decode cX2_faultOfWhole 37 = .ok (.iconst 0, 1) := by decide +kernel
theorem dX2_faultOfWhole_38 : decode cX2_faultOfWhole 38 = .ok (.ireturn, 1) := by decide +kernel
theorem dX2_moreUses_0 : decode cX2_moreUses 0 = .ok (.aload_n 0, 1) := by decide +kernel
theorem dX2_moreUses_1 : decode cX2_moreUses 1 = .ok (.getfield 21, 3) := by decide +kernel
theorem dX2_moreUses_4 : decode cX2_moreUses 4 = .ok (.getfield 122, 3) := by decide +kernel
theorem dX2_moreUses_7 : decode cX2_moreUses 7 = .ok (.ifCond .ne 5, 3) := by decide +kernel
theorem dX2_moreUses_10 : decode cX2_moreUses 10 = .ok (.lconst 1, 1) := by decide +kernel
theorem dX2_moreUses_11 : decode cX2_moreUses 11 = .ok (.lreturn, 1) := by decide +kernel
theorem dX2_moreUses_12 : decode cX2_moreUses 12 = .ok (.aload_n 0, 1) := by decide +kernel
theorem dX2_moreUses_13 : decode cX2_moreUses 13 = .ok (.getfield 21, 3) := by decide +kernel
theorem dX2_moreUses_16 : decode cX2_moreUses 16 = .ok (.getfield 122, 3) := by decide +kernel
theorem dX2_moreUses_19 : decode cX2_moreUses 19 = .ok (.iconst 2, 1) := by decide +kernel
theorem dX2_moreUses_20 : decode cX2_moreUses 20 = .ok (.if_icmp .ne 26, 3) := by decide +kernel
theorem dX2_moreUses_23 : decode cX2_moreUses 23 = .ok (.aload_n 0, 1) := by decide +kernel
theorem dX2_moreUses_24 : decode cX2_moreUses 24 = .ok (.getfield 21, 3) := by decide +kernel
theorem dX2_moreUses_27 : decode cX2_moreUses 27 = .ok (.getfield 125, 3) := by decide +kernel
theorem dX2_moreUses_30 : decode cX2_moreUses 30 = .ok (.i2l, 1) := by decide +kernel
theorem dX2_moreUses_31 : decode cX2_moreUses 31 = .ok (.aload_n 0, 1) := by decide +kernel
theorem dX2_moreUses_32 : decode cX2_moreUses 32 = .ok (.getfield 98, 3) := by decide +kernel
theorem dX2_moreUses_35 : decode cX2_moreUses 35 = .ok (.i2l, 1) := by decide +kernel
theorem dX2_moreUses_36 : decode cX2_moreUses 36 = .ok (.lsub, 1) := by decide +kernel
theorem dX2_moreUses_37 : decode cX2_moreUses 37 = .ok (.lconst 1, 1) := by decide +kernel
theorem dX2_moreUses_38 : decode cX2_moreUses 38 = .ok (.ladd, 1) := by decide +kernel
theorem dX2_moreUses_39 : decode cX2_moreUses 39 = .ok (.lconst 0, 1) := by decide +kernel
theorem dX2_moreUses_40 : decode cX2_moreUses 40 = .ok (.invokestatic 157, 3) := by decide +kernel
theorem dX2_moreUses_43 : decode cX2_moreUses 43 = .ok (.goto 4, 3) := by decide +kernel
theorem dX2_moreUses_46 : decode cX2_moreUses 46 = .ok (.lconst 0, 1) := by decide +kernel
theorem dX2_moreUses_47 : decode cX2_moreUses 47 = .ok (.lreturn, 1) := by decide +kernel
theorem dX2_obeyItem_0 : decode cX2_obeyItem 0 = .ok (.aload_n 0, 1) := by decide +kernel
theorem dX2_obeyItem_1 : decode cX2_obeyItem 1 = .ok (.getfield 21, 3) := by decide +kernel
theorem dX2_obeyItem_4 : decode cX2_obeyItem 4 = .ok (.getfield 107, 3) := by decide +kernel
theorem dX2_obeyItem_7 : decode cX2_obeyItem 7 = .ok (.lookupswitch 43 #[(0, 25), (1, 36)], 25) := by decide +kernel
theorem dX2_obeyItem_32 : decode cX2_obeyItem 32 = .ok (.aload_n 0, 1) := by decide +kernel
theorem dX2_obeyItem_33 : decode cX2_obeyItem 33 = .ok (.invokevirtual 163, 3) := by decide +kernel
theorem dX2_obeyItem_36 : decode cX2_obeyItem 36 = .ok (.aload_n 0, 1) := by decide +kernel
theorem dX2_obeyItem_37 : decode cX2_obeyItem 37 = .ok (.invokevirtual 94, 3) := by decide +kernel
theorem dX2_obeyItem_40 : decode cX2_obeyItem 40 = .ok (.goto 14, 3) := by decide +kernel
theorem dX2_obeyItem_43 : decode cX2_obeyItem 43 = .ok (.aload_n 0, 1) := by decide +kernel
theorem dX2_obeyItem_44 : decode cX2_obeyItem 44 = .ok (.invokevirtual 166, 3) := by decide +kernel
theorem dX2_obeyItem_47 : decode cX2_obeyItem 47 = .ok (.goto 7, 3) := by decide +kernel
theorem dX2_obeyItem_50 : decode cX2_obeyItem 50 = .ok (.aload_n 0, 1) := by decide +kernel
theorem dX2_obeyItem_51 : decode cX2_obeyItem 51 = .ok (.invokevirtual 169, 3) := by decide +kernel
theorem dX2_obeyItem_54 : decode cX2_obeyItem 54 = .ok (.return_, 1) := by decide +kernel
theorem dX2_obeyNumberItem_0 : decode cX2_obeyNumberItem 0 = .ok (.aload_n 0, 1) := by decide +kernel
theorem dX2_obeyNumberItem_1 : decode cX2_obeyNumberItem 1 = .ok (.getfield 21, 3) := by decide +kernel
theorem dX2_obeyNumberItem_4 : decode cX2_obeyNumberItem 4 = .ok (.getfield 122, 3) := by decide +kernel
theorem dX2_obeyNumberItem_7 : decode cX2_obeyNumberItem 7 = .ok (.tableswitch 159 0 11 #[61, 75, 89, 159, 159, 159, 159, 103, 117, 131, 145, 152], 61) := by decide +kernel
theorem dX2_obeyNumberItem_68 : decode cX2_obeyNumberItem 68 = .ok (.aload_n 0, 1) := by decide +kernel
theorem dX2_obeyNumberItem_69 : decode cX2_obeyNumberItem 69 = .ok (.aload_n 0, 1) := by decide +kernel
theorem dX2_obeyNumberItem_70 : decode cX2_obeyNumberItem 70 = .ok (.getfield 21, 3) := by decide +kernel
theorem dX2_obeyNumberItem_73 : decode cX2_obeyNumberItem 73 = .ok (.getfield 125, 3) := by decide +kernel
theorem dX2_obeyNumberItem_76 : decode cX2_obeyNumberItem 76 = .ok (.putfield 73, 3) := by decide +kernel
theorem dX2_obeyNumberItem_79 : decode cX2_obeyNumberItem 79 = .ok (.goto 87, 3) := by decide +kernel
theorem dX2_obeyNumberItem_82 : decode cX2_obeyNumberItem 82 = .ok (.aload_n 0, 1) := by decide +kernel
theorem dX2_obeyNumberItem_83 : decode cX2_obeyNumberItem 83 = .ok (.aload_n 0, 1) := by decide +kernel
theorem dX2_obeyNumberItem_84 : decode cX2_obeyNumberItem 84 = .ok (.getfield 21, 3) := by decide +kernel
theorem dX2_obeyNumberItem_87 : decode cX2_obeyNumberItem 87 = .ok (.getfield 172, 3) := by decide +kernel
theorem dX2_obeyNumberItem_90 : decode cX2_obeyNumberItem 90 = .ok (.putfield 77, 3) := by decide +kernel
theorem dX2_obeyNumberItem_93 : decode cX2_obeyNumberItem 93 = .ok (.goto 73, 3) := by decide +kernel
theorem dX2_obeyNumberItem_96 : decode cX2_obeyNumberItem 96 = .ok (.aload_n 0, 1) := by decide +kernel
theorem dX2_obeyNumberItem_97 : decode cX2_obeyNumberItem 97 = .ok (.aload_n 0, 1) := by decide +kernel
theorem dX2_obeyNumberItem_98 : decode cX2_obeyNumberItem 98 = .ok (.getfield 21, 3) := by decide +kernel
theorem dX2_obeyNumberItem_101 : decode cX2_obeyNumberItem 101 = .ok (.getfield 172, 3) := by decide +kernel
theorem dX2_obeyNumberItem_104 : decode cX2_obeyNumberItem 104 = .ok (.putfield 80, 3) := by decide +kernel
theorem dX2_obeyNumberItem_107 : decode cX2_obeyNumberItem 107 = .ok (.goto 59, 3) := by decide +kernel
theorem dX2_obeyNumberItem_110 : decode cX2_obeyNumberItem 110 = .ok (.aload_n 0, 1) := by decide +kernel
theorem dX2_obeyNumberItem_111 : decode cX2_obeyNumberItem 111 = .ok (.aload_n 0, 1) := by decide +kernel
theorem dX2_obeyNumberItem_112 : decode cX2_obeyNumberItem 112 = .ok (.getfield 21, 3) := by decide +kernel
theorem dX2_obeyNumberItem_115 : decode cX2_obeyNumberItem 115 = .ok (.getfield 125, 3) := by decide +kernel
theorem dX2_obeyNumberItem_118 : decode cX2_obeyNumberItem 118 = .ok (.putfield 83, 3) := by decide +kernel
theorem dX2_obeyNumberItem_121 : decode cX2_obeyNumberItem 121 = .ok (.goto 45, 3) := by decide +kernel
theorem dX2_obeyNumberItem_124 : decode cX2_obeyNumberItem 124 = .ok (.aload_n 0, 1) := by decide +kernel
theorem dX2_obeyNumberItem_125 : decode cX2_obeyNumberItem 125 = .ok (.aload_n 0, 1) := by decide +kernel
theorem dX2_obeyNumberItem_126 : decode cX2_obeyNumberItem 126 = .ok (.getfield 21, 3) := by decide +kernel
theorem dX2_obeyNumberItem_129 : decode cX2_obeyNumberItem 129 = .ok (.getfield 125, 3) := by decide +kernel
theorem dX2_obeyNumberItem_132 : decode cX2_obeyNumberItem 132 = .ok (.putfield 85, 3) := by decide +kernel
theorem dX2_obeyNumberItem_135 : decode cX2_obeyNumberItem 135 = .ok (.goto 31, 3) := by decide +kernel
theorem dX2_obeyNumberItem_138 : decode cX2_obeyNumberItem 138 = .ok (.aload_n 0, 1) := by decide +kernel
theorem dX2_obeyNumberItem_139 : decode cX2_obeyNumberItem 139 = .ok (.aload_n 0, 1) := by decide +kernel
theorem dX2_obeyNumberItem_140 : decode cX2_obeyNumberItem 140 = .ok (.getfield 21, 3) := by decide +kernel
theorem dX2_obeyNumberItem_143 : decode cX2_obeyNumberItem 143 = .ok (.getfield 125, 3) := by decide +kernel
theorem dX2_obeyNumberItem_146 : decode cX2_obeyNumberItem 146 = .ok (.putfield 88, 3) := by decide +kernel
theorem dX2_obeyNumberItem_149 : decode cX2_obeyNumberItem 149 = .ok (.goto 17, 3) := by decide +kernel
theorem dX2_obeyNumberItem_152 : decode cX2_obeyNumberItem 152 = .ok (.aload_n 0, 1) := by decide +kernel
theorem dX2_obeyNumberItem_153 : decode cX2_obeyNumberItem 153 = .ok (.invokevirtual 175, 3) := by decide +kernel
theorem dX2_obeyNumberItem_156 : decode cX2_obeyNumberItem 156 = .ok (.goto 10, 3) := by decide +kernel
theorem dX2_obeyNumberItem_159 : decode cX2_obeyNumberItem 159 = .ok (.aload_n 0, 1) := by decide +kernel
theorem dX2_obeyNumberItem_160 : decode cX2_obeyNumberItem 160 = .ok (.invokevirtual 178, 3) := by decide +kernel
theorem dX2_obeyNumberItem_163 : decode cX2_obeyNumberItem 163 = .ok (.goto 3, 3) := by decide +kernel
theorem dX2_obeyNumberItem_166 : decode cX2_obeyNumberItem 166 = .ok (.return_, 1) := by decide +kernel
theorem dX2_pushNumbers_0 : decode cX2_pushNumbers 0 = .ok (.aload_n 0, 1) := by decide +kernel
theorem dX2_pushNumbers_1 : decode cX2_pushNumbers 1 = .ok (.getfield 30, 3) := by decide +kernel
theorem dX2_pushNumbers_4 : decode cX2_pushNumbers 4 = .ok (.invokevirtual 181, 3) := by decide +kernel
theorem dX2_pushNumbers_7 : decode cX2_pushNumbers 7 = .ok (.istore_n 1, 1) := by decide +kernel
theorem dX2_pushNumbers_8 : decode cX2_pushNumbers 8 = .ok (.aload_n 0, 1) := by decide +kernel
theorem dX2_pushNumbers_9 : decode cX2_pushNumbers 9 = .ok (.getfield 30, 3) := by decide +kernel
theorem dX2_pushNumbers_12 : decode cX2_pushNumbers 12 = .ok (.iload_n 1, 1) := by decide +kernel
theorem dX2_pushNumbers_13 : decode cX2_pushNumbers 13 = .ok (.iconst 0, 1) := by decide +kernel
theorem dX2_pushNumbers_14 : decode cX2_pushNumbers 14 = .ok (.aload_n 0, 1) := by decide +kernel
theorem dX2_pushNumbers_15 : decode cX2_pushNumbers 15 = .ok (.getfield 73, 3) := by decide +kernel
theorem dX2_pushNumbers_18 : decode cX2_pushNumbers 18 = .ok (.invokevirtual 184, 3) := by decide +kernel
theorem dX2_pushNumbers_21 : decode cX2_pushNumbers 21 = .ok (.aload_n 0, 1) := by decide +kernel
theorem dX2_pushNumbers_22 : decode cX2_pushNumbers 22 = .ok (.getfield 30, 3) := by decide +kernel
theorem dX2_pushNumbers_25 : decode cX2_pushNumbers 25 = .ok (.iload_n 1, 1) := by decide +kernel
theorem dX2_pushNumbers_26 : decode cX2_pushNumbers 26 = .ok (.iconst 1, 1) := by decide +kernel
theorem dX2_pushNumbers_27 : decode cX2_pushNumbers 27 = .ok (.aload_n 0, 1) := by decide +kernel
theorem dX2_pushNumbers_28 : decode cX2_pushNumbers 28 = .ok (.getfield 77, 3) := by decide +kernel
theorem dX2_pushNumbers_31 : decode cX2_pushNumbers 31 = .ok (.invokevirtual 184, 3) := by decide +kernel
theorem dX2_pushNumbers_34 : decode cX2_pushNumbers 34 = .ok (.aload_n 0, 1) := by decide +kernel
theorem dX2_pushNumbers_35 : decode cX2_pushNumbers 35 = .ok (.getfield 30, 3) := by decide +kernel
theorem dX2_pushNumbers_38 : decode cX2_pushNumbers 38 = .ok (.iload_n 1, 1) := by decide +kernel
theorem dX2_pushNumbers_39 : decode cX2_pushNumbers 39 = .ok (.iconst 2, 1) := by decide +kernel
theorem dX2_pushNumbers_40 : decode cX2_pushNumbers 40 = .ok (.aload_n 0, 1) := by decide +kernel
theorem dX2_pushNumbers_41 : decode cX2_pushNumbers 41 = .ok (.getfield 80, 3) := by decide +kernel
theorem dX2_pushNumbers_44 : decode cX2_pushNumbers 44 = .ok (.invokevirtual 184, 3) := by decide +kernel
theorem dX2_pushNumbers_47 : decode cX2_pushNumbers 47 = .ok (.aload_n 0, 1) := by decide +kernel
theorem dX2_pushNumbers_48 : decode cX2_pushNumbers 48 = .ok (.getfield 30, 3) := by decide +kernel
theorem dX2_pushNumbers_51 : decode cX2_pushNumbers 51 = .ok (.iload_n 1, 1) := by decide +kernel
theorem dX2_pushNumbers_52 : decode cX2_pushNumbers 52 = .ok (.iconst 3, 1) := by decide +kernel
theorem dX2_pushNumbers_53 : decode cX2_pushNumbers 53 = .ok (.aload_n 0, 1) := by decide +kernel
theorem dX2_pushNumbers_54 : decode cX2_pushNumbers 54 = .ok (.getfield 83, 3) := by decide +kernel
theorem dX2_pushNumbers_57 : decode cX2_pushNumbers 57 = .ok (.invokevirtual 184, 3) := by decide +kernel
theorem dX2_pushNumbers_60 : decode cX2_pushNumbers 60 = .ok (.aload_n 0, 1) := by decide +kernel
theorem dX2_pushNumbers_61 : decode cX2_pushNumbers 61 = .ok (.getfield 30, 3) := by decide +kernel
theorem dX2_pushNumbers_64 : decode cX2_pushNumbers 64 = .ok (.iload_n 1, 1) := by decide +kernel
theorem dX2_pushNumbers_65 : decode cX2_pushNumbers 65 = .ok (.iconst 4, 1) := by decide +kernel
theorem dX2_pushNumbers_66 : decode cX2_pushNumbers 66 = .ok (.aload_n 0, 1) := by decide +kernel
theorem dX2_pushNumbers_67 : decode cX2_pushNumbers 67 = .ok (.getfield 85, 3) := by decide +kernel
theorem dX2_pushNumbers_70 : decode cX2_pushNumbers 70 = .ok (.invokevirtual 184, 3) := by decide +kernel
theorem dX2_pushNumbers_73 : decode cX2_pushNumbers 73 = .ok (.aload_n 0, 1) := by decide +kernel
theorem dX2_pushNumbers_74 : decode cX2_pushNumbers 74 = .ok (.getfield 30, 3) := by decide +kernel
theorem dX2_pushNumbers_77 : decode cX2_pushNumbers 77 = .ok (.iload_n 1, 1) := by decide +kernel
theorem dX2_pushNumbers_78 : decode cX2_pushNumbers 78 = .ok (.iconst 5, 1) := by decide +kernel
theorem dX2_pushNumbers_79 : decode cX2_pushNumbers 79 = .ok (.aload_n 0, 1) := by decide +kernel
theorem dX2_pushNumbers_80 : decode cX2_pushNumbers 80 = .ok (.getfield 88, 3) := by decide +kernel
theorem dX2_pushNumbers_83 : decode cX2_pushNumbers 83 = .ok (.invokevirtual 184, 3) := by decide +kernel
theorem dX2_pushNumbers_86 : decode cX2_pushNumbers 86 = .ok (.return_, 1) := by decide +kernel
theorem dX2_popNumbers_0 : decode cX2_popNumbers 0 = .ok (.aload_n 0, 1) := by decide +kernel
theorem dX2_popNumbers_1 : decode cX2_popNumbers 1 = .ok (.getfield 30, 3) := by decide +kernel
theorem dX2_popNumbers_4 : decode cX2_popNumbers 4 = .ok (.invokevirtual 128, 3) := by decide +kernel
theorem dX2_popNumbers_7 : decode cX2_popNumbers 7 = .ok (.iconst 1, 1) := by decide +kernel
theorem dX2_popNumbers_8 : decode cX2_popNumbers 8 = .ok (.isub, 1) := by decide +kernel
theorem dX2_popNumbers_9 : decode cX2_popNumbers 9 = .ok (.istore_n 1, 1) := by decide +kernel
theorem dX2_popNumbers_10 : decode cX2_popNumbers 10 = .ok (.aload_n 0, 1) := by decide +kernel
theorem dX2_popNumbers_11 : decode cX2_popNumbers 11 = .ok (.aload_n 0, 1) := by decide +kernel
theorem dX2_popNumbers_12 : decode cX2_popNumbers 12 = .ok (.getfield 30, 3) := by decide +kernel
theorem dX2_popNumbers_15 : decode cX2_popNumbers 15 = .ok (.iload_n 1, 1) := by decide +kernel
theorem dX2_popNumbers_16 : decode cX2_popNumbers 16 = .ok (.iconst 0, 1) := by decide +kernel
theorem dX2_popNumbers_17 : decode cX2_popNumbers 17 = .ok (.invokevirtual 188, 3) := by decide +kernel
theorem dX2_popNumbers_20 : decode cX2_popNumbers 20 = .ok (.putfield 73, 3) := by decide +kernel
theorem dX2_popNumbers_23 : decode cX2_popNumbers 23 = .ok (.aload_n 0, 1) := by decide +kernel
theorem dX2_popNumbers_24 : decode cX2_popNumbers 24 = .ok (.aload_n 0, 1) := by decide +kernel
theorem dX2_popNumbers_25 : decode cX2_popNumbers 25 = .ok (.getfield 30, 3) := by decide +kernel
theorem dX2_popNumbers_28 : decode cX2_popNumbers 28 = .ok (.iload_n 1, 1) := by decide +kernel
theorem dX2_popNumbers_29 : decode cX2_popNumbers 29 = .ok (.iconst 1, 1) := by decide +kernel
theorem dX2_popNumbers_30 : decode cX2_popNumbers 30 = .ok (.invokevirtual 188, 3) := by decide +kernel
theorem dX2_popNumbers_33 : decode cX2_popNumbers 33 = .ok (.putfield 77, 3) := by decide +kernel
theorem dX2_popNumbers_36 : decode cX2_popNumbers 36 = .ok (.aload_n 0, 1) := by decide +kernel
theorem dX2_popNumbers_37 : decode cX2_popNumbers 37 = .ok (.aload_n 0, 1) := by decide +kernel
theorem dX2_popNumbers_38 : decode cX2_popNumbers 38 = .ok (.getfield 30, 3) := by decide +kernel
theorem dX2_popNumbers_41 : decode cX2_popNumbers 41 = .ok (.iload_n 1, 1) := by decide +kernel
theorem dX2_popNumbers_42 : decode cX2_popNumbers 42 = .ok (.iconst 2, 1) := by decide +kernel
theorem dX2_popNumbers_43 : decode cX2_popNumbers 43 = .ok (.invokevirtual 188, 3) := by decide +kernel
theorem dX2_popNumbers_46 : decode cX2_popNumbers 46 = .ok (.putfield 80, 3) := by decide +kernel
theorem dX2_popNumbers_49 : decode cX2_popNumbers 49 = .ok (.aload_n 0, 1) := by decide +kernel
theorem dX2_popNumbers_50 : decode cX2_popNumbers 50 = .ok (.aload_n 0, 1) := by decide +kernel
theorem dX2_popNumbers_51 : decode cX2_popNumbers 51 = .ok (.getfield 30, 3) := by decide +kernel
theorem dX2_popNumbers_54 : decode cX2_popNumbers 54 = .ok (.iload_n 1, 1) := by decide +kernel
theorem dX2_popNumbers_55 : decode cX2_popNumbers 55 = .ok (.iconst 3, 1) := by decide +kernel
theorem dX2_popNumbers_56 : decode cX2_popNumbers 56 = .ok (.invokevirtual 188, 3) := by decide +kernel
theorem dX2_popNumbers_59 : decode cX2_popNumbers 59 = .ok (.putfield 83, 3) := by decide +kernel
theorem dX2_popNumbers_62 : decode cX2_popNumbers 62 = .ok (.aload_n 0, 1) := by decide +kernel
theorem dX2_popNumbers_63 : decode cX2_popNumbers 63 = .ok (.aload_n 0, 1) := by decide +kernel
theorem dX2_popNumbers_64 : decode cX2_popNumbers 64 = .ok (.getfield 30, 3) := by decide +kernel
theorem dX2_popNumbers_67 : decode cX2_popNumbers 67 = .ok (.iload_n 1, 1) := by decide +kernel
theorem dX2_popNumbers_68 : decode cX2_popNumbers 68 = .ok (.iconst 4, 1) := by decide +kernel
theorem dX2_popNumbers_69 : decode cX2_popNumbers 69 = .ok (.invokevirtual 188, 3) := by decide +kernel
theorem dX2_popNumbers_72 : decode cX2_popNumbers 72 = .ok (.putfield 85, 3) := by decide +kernel
theorem dX2_popNumbers_75 : decode cX2_popNumbers 75 = .ok (.aload_n 0, 1) := by decide +kernel
theorem dX2_popNumbers_76 : decode cX2_popNumbers 76 = .ok (.aload_n 0, 1) := by decide +kernel
theorem dX2_popNumbers_77 : decode cX2_popNumbers 77 = .ok (.getfield 30, 3) := by decide +kernel
theorem dX2_popNumbers_80 : decode cX2_popNumbers 80 = .ok (.iload_n 1, 1) := by decide +kernel
theorem dX2_popNumbers_81 : decode cX2_popNumbers 81 = .ok (.iconst 5, 1) := by decide +kernel
theorem dX2_popNumbers_82 : decode cX2_popNumbers 82 = .ok (.invokevirtual 188, 3) := by decide +kernel
theorem dX2_popNumbers_85 : decode cX2_popNumbers 85 = .ok (.putfield 88, 3) := by decide +kernel
theorem dX2_popNumbers_88 : decode cX2_popNumbers 88 = .ok (.aload_n 0, 1) := by decide +kernel
theorem dX2_popNumbers_89 : decode cX2_popNumbers 89 = .ok (.getfield 30, 3) := by decide +kernel
theorem dX2_popNumbers_92 : decode cX2_popNumbers 92 = .ok (.invokevirtual 191, 3) := by decide +kernel
theorem dX2_popNumbers_95 : decode cX2_popNumbers 95 = .ok (.return_, 1) := by decide +kernel
theorem dX2_obeyUseItem_0 : decode cX2_obeyUseItem 0 = .ok (.aload_n 0, 1) := by decide +kernel
theorem dX2_obeyUseItem_1 : decode cX2_obeyUseItem 1 = .ok (.getfield 21, 3) := by decide +kernel
theorem dX2_obeyUseItem_4 : decode cX2_obeyUseItem 4 = .ok (.getfield 122, 3) := by decide +kernel
theorem dX2_obeyUseItem_7 : decode cX2_obeyUseItem 7 = .ok (.iconst 1, 1) := by decide +kernel
theorem dX2_obeyUseItem_8 : decode cX2_obeyUseItem 8 = .ok (.if_icmp .ne 15, 3) := by decide +kernel
theorem dX2_obeyUseItem_11 : decode cX2_obeyUseItem 11 = .ok (.aload_n 0, 1) := by decide +kernel
theorem dX2_obeyUseItem_12 : decode cX2_obeyUseItem 12 = .ok (.aload_n 0, 1) := by decide +kernel
theorem dX2_obeyUseItem_13 : decode cX2_obeyUseItem 13 = .ok (.getfield 21, 3) := by decide +kernel
theorem dX2_obeyUseItem_16 : decode cX2_obeyUseItem 16 = .ok (.getfield 125, 3) := by decide +kernel
theorem dX2_obeyUseItem_19 : decode cX2_obeyUseItem 19 = .ok (.putfield 98, 3) := by decide +kernel
theorem dX2_obeyUseItem_22 : decode cX2_obeyUseItem 22 = .ok (.return_, 1) := by decide +kernel
theorem dX2_obeyUseItem_23 : decode cX2_obeyUseItem 23 = .ok (.aload_n 0, 1) := by decide +kernel
theorem dX2_obeyUseItem_24 : decode cX2_obeyUseItem 24 = .ok (.getfield 21, 3) := by decide +kernel
theorem dX2_obeyUseItem_27 : decode cX2_obeyUseItem 27 = .ok (.getfield 122, 3) := by decide +kernel
theorem dX2_obeyUseItem_30 : decode cX2_obeyUseItem 30 = .ok (.ifCond .ne 13, 3) := by decide +kernel
theorem dX2_obeyUseItem_33 : decode cX2_obeyUseItem 33 = .ok (.aload_n 0, 1) := by decide +kernel
theorem dX2_obeyUseItem_34 : decode cX2_obeyUseItem 34 = .ok (.getfield 21, 3) := by decide +kernel
theorem dX2_obeyUseItem_37 : decode cX2_obeyUseItem 37 = .ok (.getfield 125, 3) := by decide +kernel
theorem dX2_obeyUseItem_40 : decode cX2_obeyUseItem 40 = .ok (.goto 7, 3) := by decide +kernel
theorem dX2_obeyUseItem_43 : decode cX2_obeyUseItem 43 = .ok (.aload_n 0, 1) := by decide +kernel
theorem dX2_obeyUseItem_44 : decode cX2_obeyUseItem 44 = .ok (.getfield 98, 3) := by decide +kernel
theorem dX2_obeyUseItem_47 : decode cX2_obeyUseItem 47 = .ok (.istore_n 1, 1) := by decide +kernel
theorem dX2_obeyUseItem_48 : decode cX2_obeyUseItem 48 = .ok (.aload_n 0, 1) := by decide +kernel
theorem dX2_obeyUseItem_49 : decode cX2_obeyUseItem 49 = .ok (.invokevirtual 116, 3) := by decide +kernel
theorem dX2_obeyUseItem_52 : decode cX2_obeyUseItem 52 = .ok (.lstore_n 2, 1) := by decide +kernel
theorem dX2_obeyUseItem_53 : decode cX2_obeyUseItem 53 = .ok (.iconst 0, 1) := by decide +kernel
theorem dX2_obeyUseItem_54 : decode cX2_obeyUseItem 54 = .ok (.istore 4, 2) := by decide +kernel
theorem dX2_obeyUseItem_56 : decode cX2_obeyUseItem 56 = .ok (.iload 4, 2) := by decide +kernel
theorem dX2_obeyUseItem_58 : decode cX2_obeyUseItem 58 = .ok (.bipush 32, 2) := by decide +kernel
theorem dX2_obeyUseItem_60 : decode cX2_obeyUseItem 60 = .ok (.if_icmp .ge 28, 3) := by decide +kernel
theorem dX2_obeyUseItem_63 : decode cX2_obeyUseItem 63 = .ok (.iload 4, 2) := by decide +kernel
theorem dX2_obeyUseItem_65 : decode cX2_obeyUseItem 65 = .ok (.i2l, 1) := by decide +kernel
theorem dX2_obeyUseItem_66 : decode cX2_obeyUseItem 66 = .ok (.lload_n 2, 1) := by decide +kernel
theorem dX2_obeyUseItem_67 : decode cX2_obeyUseItem 67 = .ok (.lcmp, 1) := by decide +kernel
theorem dX2_obeyUseItem_68 : decode cX2_obeyUseItem 68 = .ok (.ifCond .ge 20, 3) := by decide +kernel
theorem dX2_obeyUseItem_71 : decode cX2_obeyUseItem 71 = .ok (.aload_n 0, 1) := by decide +kernel
theorem dX2_obeyUseItem_72 : decode cX2_obeyUseItem 72 = .ok (.getfield 39, 3) := by decide +kernel
theorem dX2_obeyUseItem_75 : decode cX2_obeyUseItem 75 = .ok (.iload_n 1, 1) := by decide +kernel
theorem dX2_obeyUseItem_76 : decode cX2_obeyUseItem 76 = .ok (.iload 4, 2) := by decide +kernel
theorem dX2_obeyUseItem_78 : decode cX2_obeyUseItem 78 = .ok (.iadd, 1) := by decide +kernel
theorem dX2_obeyUseItem_79 : decode cX2_obeyUseItem 79 = .ok (.invokevirtual 194, 3) := by decide +kernel
theorem dX2_obeyUseItem_82 : decode cX2_obeyUseItem 82 = .ok (.iinc 4 1, 3) := by decide +kernel
theorem dX2_obeyUseItem_85 : decode cX2_obeyUseItem 85 = .ok (.goto (-29), 3) := by decide +kernel
theorem dX2_obeyUseItem_88 : decode cX2_obeyUseItem 88 = .ok (.return_, 1) := by decide +kernel
theorem dX2_obeyShapeItem_0 : decode cX2_obeyShapeItem 0 = .ok (.aload_n 0, 1) := by decide +kernel
theorem dX2_obeyShapeItem_1 : decode cX2_obeyShapeItem 1 = .ok (.getfield 21, 3) := by decide +kernel
theorem dX2_obeyShapeItem_4 : decode cX2_obeyShapeItem 4 = .ok (.getfield 122, 3) := by decide +kernel
theorem dX2_obeyShapeItem_7 : decode cX2_obeyShapeItem 7 = .ok (.lookupswitch 54 #[(10, 25), (12, 32)], 25) := by decide +kernel
theorem dX2_obeyShapeItem_32 : decode cX2_obeyShapeItem 32 = .ok (.aload_n 0, 1) := by decide +kernel
theorem dX2_obeyShapeItem_33 : decode cX2_obeyShapeItem 33 = .ok (.invokevirtual 197, 3) := by decide +kernel
theorem dX2_obeyShapeItem_36 : decode cX2_obeyShapeItem 36 = .ok (.goto 60, 3) := by decide +kernel
theorem dX2_obeyShapeItem_39 : decode cX2_obeyShapeItem 39 = .ok (.aload_n 0, 1) := by decide +kernel
theorem dX2_obeyShapeItem_40 : decode cX2_obeyShapeItem 40 = .ok (.aload_n 0, 1) := by decide +kernel
theorem dX2_obeyShapeItem_41 : decode cX2_obeyShapeItem 41 = .ok (.getfield 12, 3) := by decide +kernel
theorem dX2_obeyShapeItem_44 : decode cX2_obeyShapeItem 44 = .ok (.getfield 134, 3) := by decide +kernel
theorem dX2_obeyShapeItem_47 : decode cX2_obeyShapeItem 47 = .ok (.aload_n 0, 1) := by decide +kernel
theorem dX2_obeyShapeItem_48 : decode cX2_obeyShapeItem 48 = .ok (.getfield 91, 3) := by decide +kernel
theorem dX2_obeyShapeItem_51 : decode cX2_obeyShapeItem 51 = .ok (.iconst 2, 1) := by decide +kernel
theorem dX2_obeyShapeItem_52 : decode cX2_obeyShapeItem 52 = .ok (.invokevirtual 188, 3) := by decide +kernel
theorem dX2_obeyShapeItem_55 : decode cX2_obeyShapeItem 55 = .ok (.putfield 91, 3) := by decide +kernel
theorem dX2_obeyShapeItem_58 : decode cX2_obeyShapeItem 58 = .ok (.goto 38, 3) := by decide +kernel
theorem dX2_obeyShapeItem_61 : decode cX2_obeyShapeItem 61 = .ok (.aload_n 0, 1) := by decide +kernel
theorem dX2_obeyShapeItem_62 : decode cX2_obeyShapeItem 62 = .ok (.invokevirtual 137, 3) := by decide +kernel
theorem dX2_obeyShapeItem_65 : decode cX2_obeyShapeItem 65 = .ok (.ifCond .eq 7, 3) := by decide +kernel
theorem dX2_obeyShapeItem_68 : decode cX2_obeyShapeItem 68 = .ok (.aload_n 0, 1) := by decide +kernel
theorem dX2_obeyShapeItem_69 : decode cX2_obeyShapeItem 69 = .ok (.invokevirtual 200, 3) := by decide +kernel
theorem dX2_obeyShapeItem_72 : decode cX2_obeyShapeItem 72 = .ok (.aload_n 0, 1) := by decide +kernel
theorem dX2_obeyShapeItem_73 : decode cX2_obeyShapeItem 73 = .ok (.getfield 12, 3) := by decide +kernel
theorem dX2_obeyShapeItem_76 : decode cX2_obeyShapeItem 76 = .ok (.aload_n 0, 1) := by decide +kernel
theorem dX2_obeyShapeItem_77 : decode cX2_obeyShapeItem 77 = .ok (.invokevirtual 141, 3) := by decide +kernel
theorem dX2_obeyShapeItem_80 : decode cX2_obeyShapeItem 80 = .ok (.aload_n 0, 1) := by decide +kernel
theorem dX2_obeyShapeItem_81 : decode cX2_obeyShapeItem 81 = .ok (.getfield 85, 3) := by decide +kernel
theorem dX2_obeyShapeItem_84 : decode cX2_obeyShapeItem 84 = .ok (.aload_n 0, 1) := by decide +kernel
theorem dX2_obeyShapeItem_85 : decode cX2_obeyShapeItem 85 = .ok (.getfield 88, 3) := by decide +kernel
theorem dX2_obeyShapeItem_88 : decode cX2_obeyShapeItem 88 = .ok (.aload_n 0, 1) := by decide +kernel
theorem dX2_obeyShapeItem_89 : decode cX2_obeyShapeItem 89 = .ok (.getfield 83, 3) := by decide +kernel
theorem dX2_obeyShapeItem_92 : decode cX2_obeyShapeItem 92 = .ok (.imul, 1) := by decide +kernel
theorem dX2_obeyShapeItem_93 : decode cX2_obeyShapeItem 93 = .ok (.invokevirtual 203, 3) := by decide +kernel
theorem dX2_obeyShapeItem_96 : decode cX2_obeyShapeItem 96 = .ok (.return_, 1) := by decide +kernel
theorem dX2_beginGroup_0 : decode cX2_beginGroup 0 = .ok (.aload_n 0, 1) := by decide +kernel
theorem dX2_beginGroup_1 : decode cX2_beginGroup 1 = .ok (.getfield 12, 3) := by decide +kernel
theorem dX2_beginGroup_4 : decode cX2_beginGroup 4 = .ok (.getfield 134, 3) := by decide +kernel
theorem dX2_beginGroup_7 : decode cX2_beginGroup 7 = .ok (.invokevirtual 181, 3) := by decide +kernel
theorem dX2_beginGroup_10 : decode cX2_beginGroup 10 = .ok (.istore_n 1, 1) := by decide +kernel
theorem dX2_beginGroup_11 : decode cX2_beginGroup 11 = .ok (.aload_n 0, 1) := by decide +kernel
theorem dX2_beginGroup_12 : decode cX2_beginGroup 12 = .ok (.getfield 12, 3) := by decide +kernel
theorem dX2_beginGroup_15 : decode cX2_beginGroup 15 = .ok (.getfield 134, 3) := by decide +kernel
theorem dX2_beginGroup_18 : decode cX2_beginGroup 18 = .ok (.iload_n 1, 1) := by decide +kernel
theorem dX2_beginGroup_19 : decode cX2_beginGroup 19 = .ok (.iconst 0, 1) := by decide +kernel
theorem dX2_beginGroup_20 : decode cX2_beginGroup 20 = .ok (.aload_n 0, 1) := by decide +kernel
theorem dX2_beginGroup_21 : decode cX2_beginGroup 21 = .ok (.getfield 21, 3) := by decide +kernel
theorem dX2_beginGroup_24 : decode cX2_beginGroup 24 = .ok (.getfield 125, 3) := by decide +kernel
theorem dX2_beginGroup_27 : decode cX2_beginGroup 27 = .ok (.invokevirtual 184, 3) := by decide +kernel
theorem dX2_beginGroup_30 : decode cX2_beginGroup 30 = .ok (.aload_n 0, 1) := by decide +kernel
theorem dX2_beginGroup_31 : decode cX2_beginGroup 31 = .ok (.getfield 12, 3) := by decide +kernel
theorem dX2_beginGroup_34 : decode cX2_beginGroup 34 = .ok (.getfield 134, 3) := by decide +kernel
theorem dX2_beginGroup_37 : decode cX2_beginGroup 37 = .ok (.iload_n 1, 1) := by decide +kernel
theorem dX2_beginGroup_38 : decode cX2_beginGroup 38 = .ok (.iconst 1, 1) := by decide +kernel
theorem dX2_beginGroup_39 : decode cX2_beginGroup 39 = .ok (.aload_n 0, 1) := by decide +kernel
theorem dX2_beginGroup_40 : decode cX2_beginGroup 40 = .ok (.getfield 39, 3) := by decide +kernel
theorem dX2_beginGroup_43 : decode cX2_beginGroup 43 = .ok (.iconst 0, 1) := by decide +kernel
theorem dX2_beginGroup_44 : decode cX2_beginGroup 44 = .ok (.invokevirtual 206, 3) := by decide +kernel
theorem dX2_beginGroup_47 : decode cX2_beginGroup 47 = .ok (.invokevirtual 184, 3) := by decide +kernel
theorem dX2_beginGroup_50 : decode cX2_beginGroup 50 = .ok (.aload_n 0, 1) := by decide +kernel
theorem dX2_beginGroup_51 : decode cX2_beginGroup 51 = .ok (.getfield 12, 3) := by decide +kernel
theorem dX2_beginGroup_54 : decode cX2_beginGroup 54 = .ok (.getfield 134, 3) := by decide +kernel
theorem dX2_beginGroup_57 : decode cX2_beginGroup 57 = .ok (.iload_n 1, 1) := by decide +kernel
theorem dX2_beginGroup_58 : decode cX2_beginGroup 58 = .ok (.iconst 2, 1) := by decide +kernel
theorem dX2_beginGroup_59 : decode cX2_beginGroup 59 = .ok (.aload_n 0, 1) := by decide +kernel
theorem dX2_beginGroup_60 : decode cX2_beginGroup 60 = .ok (.getfield 91, 3) := by decide +kernel
theorem dX2_beginGroup_63 : decode cX2_beginGroup 63 = .ok (.invokevirtual 184, 3) := by decide +kernel
theorem dX2_beginGroup_66 : decode cX2_beginGroup 66 = .ok (.aload_n 0, 1) := by decide +kernel
theorem dX2_beginGroup_67 : decode cX2_beginGroup 67 = .ok (.iload_n 1, 1) := by decide +kernel
theorem dX2_beginGroup_68 : decode cX2_beginGroup 68 = .ok (.putfield 91, 3) := by decide +kernel
theorem dX2_beginGroup_71 : decode cX2_beginGroup 71 = .ok (.return_, 1) := by decide +kernel
theorem dX2_wayOfItem_0 : decode cX2_wayOfItem 0 = .ok (.aload_n 0, 1) := by decide +kernel
theorem dX2_wayOfItem_1 : decode cX2_wayOfItem 1 = .ok (.getfield 21, 3) := by decide +kernel
theorem dX2_wayOfItem_4 : decode cX2_wayOfItem 4 = .ok (.getfield 122, 3) := by decide +kernel
theorem dX2_wayOfItem_7 : decode cX2_wayOfItem 7 = .ok (.bipush 8, 2) := by decide +kernel
theorem dX2_wayOfItem_9 : decode cX2_wayOfItem 9 = .ok (.if_icmp .ne 7, 3) := by decide +kernel
theorem dX2_wayOfItem_12 : decode cX2_wayOfItem 12 = .ok (.iconst 0, 1) := by decide +kernel
theorem dX2_wayOfItem_13 : decode cX2_wayOfItem 13 = .ok (.goto 20, 3) := by decide +kernel
theorem dX2_wayOfItem_16 : decode cX2_wayOfItem 16 = .ok (.aload_n 0, 1) := by decide +kernel
theorem dX2_wayOfItem_17 : decode cX2_wayOfItem 17 = .ok (.getfield 21, 3) := by decide +kernel
theorem dX2_wayOfItem_20 : decode cX2_wayOfItem 20 = .ok (.getfield 122, 3) := by decide +kernel
theorem dX2_wayOfItem_23 : decode cX2_wayOfItem 23 = .ok (.bipush 9, 2) := by decide +kernel
theorem dX2_wayOfItem_25 : decode cX2_wayOfItem 25 = .ok (.if_icmp .ne 7, 3) := by decide +kernel
theorem dX2_wayOfItem_28 : decode cX2_wayOfItem 28 = .ok (.iconst 1, 1) := by decide +kernel
theorem dX2_wayOfItem_29 : decode cX2_wayOfItem 29 = .ok (.goto 4, 3) := by decide +kernel
theorem dX2_wayOfItem_32 : decode cX2_wayOfItem 32 = .ok (.iconst 2, 1) := by decide +kernel
theorem dX2_wayOfItem_33 : decode cX2_wayOfItem 33 = .ok (.ireturn, 1) := by decide +kernel
theorem dX2_makesFields_0 : decode cX2_makesFields 0 = .ok (.aload_n 0, 1) := by decide +kernel
theorem dX2_makesFields_1 : decode cX2_makesFields 1 = .ok (.getfield 21, 3) := by decide +kernel
theorem dX2_makesFields_4 : decode cX2_makesFields 4 = .ok (.getfield 125, 3) := by decide +kernel
theorem dX2_makesFields_7 : decode cX2_makesFields 7 = .ok (.iconst 2, 1) := by decide +kernel
theorem dX2_makesFields_8 : decode cX2_makesFields 8 = .ok (.irem, 1) := by decide +kernel
theorem dX2_makesFields_9 : decode cX2_makesFields 9 = .ok (.ifCond .ne 7, 3) := by decide +kernel
theorem dX2_makesFields_12 : decode cX2_makesFields 12 = .ok (.iconst 1, 1) := by decide +kernel
theorem dX2_makesFields_13 : decode cX2_makesFields 13 = .ok (.goto 4, 3) := by decide +kernel
theorem dX2_makesFields_16 : decode cX2_makesFields 16 = .ok (.iconst 0, 1) := by decide +kernel
theorem dX2_makesFields_17 : decode cX2_makesFields 17 = .ok (.ireturn, 1) := by decide +kernel
theorem dX2_makesValues_0 : decode cX2_makesValues 0 = .ok (.aload_n 0, 1) := by decide +kernel
theorem dX2_makesValues_1 : decode cX2_makesValues 1 = .ok (.getfield 21, 3) := by decide +kernel
theorem dX2_makesValues_4 : decode cX2_makesValues 4 = .ok (.getfield 125, 3) := by decide +kernel
theorem dX2_makesValues_7 : decode cX2_makesValues 7 = .ok (.iconst 2, 1) := by decide +kernel
theorem dX2_makesValues_8 : decode cX2_makesValues 8 = .ok (.idiv, 1) := by decide +kernel
theorem dX2_makesValues_9 : decode cX2_makesValues 9 = .ok (.iconst 2, 1) := by decide +kernel
theorem dX2_makesValues_10 : decode cX2_makesValues 10 = .ok (.irem, 1) := by decide +kernel
theorem dX2_makesValues_11 : decode cX2_makesValues 11 = .ok (.iconst 1, 1) := by decide +kernel
theorem dX2_makesValues_12 : decode cX2_makesValues 12 = .ok (.if_icmp .ne 7, 3) := by decide +kernel
theorem dX2_makesValues_15 : decode cX2_makesValues 15 = .ok (.iconst 1, 1) := by decide +kernel
theorem dX2_makesValues_16 : decode cX2_makesValues 16 = .ok (.goto 4, 3) := by decide +kernel
theorem dX2_makesValues_19 : decode cX2_makesValues 19 = .ok (.iconst 0, 1) := by decide +kernel
theorem dX2_makesValues_20 : decode cX2_makesValues 20 = .ok (.ireturn, 1) := by decide +kernel
theorem dX2_addFields_0 : decode cX2_addFields 0 = .ok (.aload_n 0, 1) := by decide +kernel
theorem dX2_addFields_1 : decode cX2_addFields 1 = .ok (.getfield 12, 3) := by decide +kernel
theorem dX2_addFields_4 : decode cX2_addFields 4 = .ok (.getfield 148, 3) := by decide +kernel
theorem dX2_addFields_7 : decode cX2_addFields 7 = .ok (.invokevirtual 128, 3) := by decide +kernel
theorem dX2_addFields_10 : decode cX2_addFields 10 = .ok (.istore_n 1, 1) := by decide +kernel
theorem dX2_addFields_11 : decode cX2_addFields 11 = .ok (.aload_n 0, 1) := by decide +kernel
theorem dX2_addFields_12 : decode cX2_addFields 12 = .ok (.getfield 12, 3) := by decide +kernel
theorem dX2_addFields_15 : decode cX2_addFields 15 = .ok (.aload_n 0, 1) := by decide +kernel
theorem dX2_addFields_16 : decode cX2_addFields 16 = .ok (.invokevirtual 141, 3) := by decide +kernel
theorem dX2_addFields_19 : decode cX2_addFields 19 = .ok (.aload_n 0, 1) := by decide +kernel
theorem dX2_addFields_20 : decode cX2_addFields 20 = .ok (.getfield 85, 3) := by decide +kernel
theorem dX2_addFields_23 : decode cX2_addFields 23 = .ok (.invokevirtual 144, 3) := by decide +kernel
theorem dX2_addFields_26 : decode cX2_addFields 26 = .ok (.istore_n 2, 1) := by decide +kernel
theorem dX2_addFields_27 : decode cX2_addFields 27 = .ok (.iconst 0, 1) := by decide +kernel
theorem dX2_addFields_28 : decode cX2_addFields 28 = .ok (.istore_n 3, 1) := by decide +kernel
theorem dX2_addFields_29 : decode cX2_addFields 29 = .ok (.iload_n 3, 1) := by decide +kernel
theorem dX2_addFields_30 : decode cX2_addFields 30 = .ok (.aload_n 0, 1) := by decide +kernel
theorem dX2_addFields_31 : decode cX2_addFields 31 = .ok (.getfield 88, 3) := by decide +kernel
theorem dX2_addFields_34 : decode cX2_addFields 34 = .ok (.if_icmp .ge 92, 3) := by decide +kernel
theorem dX2_addFields_37 : decode cX2_addFields 37 = .ok (.iload_n 3, 1) := by decide +kernel
theorem dX2_addFields_38 : decode cX2_addFields 38 = .ok (.bipush 48, 2) := by decide +kernel
theorem dX2_addFields_40 : decode cX2_addFields 40 = .ok (.if_icmp .ge 86, 3) := by decide +kernel
theorem dX2_addFields_43 : decode cX2_addFields 43 = .ok (.aload_n 0, 1) := by decide +kernel
theorem dX2_addFields_44 : decode cX2_addFields 44 = .ok (.getfield 12, 3) := by decide +kernel
theorem dX2_addFields_47 : decode cX2_addFields 47 = .ok (.getfield 148, 3) := by decide +kernel
theorem dX2_addFields_50 : decode cX2_addFields 50 = .ok (.invokevirtual 181, 3) := by decide +kernel
theorem dX2_addFields_53 : decode cX2_addFields 53 = .ok (.istore 4, 2) := by decide +kernel
theorem dX2_addFields_55 : decode cX2_addFields 55 = .ok (.aload_n 0, 1) := by decide +kernel
theorem dX2_addFields_56 : decode cX2_addFields 56 = .ok (.getfield 12, 3) := by decide +kernel
theorem dX2_addFields_59 : decode cX2_addFields 59 = .ok (.getfield 148, 3) := by decide +kernel
theorem dX2_addFields_62 : decode cX2_addFields 62 = .ok (.iload 4, 2) := by decide +kernel
theorem dX2_addFields_64 : decode cX2_addFields 64 = .ok (.bipush 12, 2) := by decide +kernel
theorem dX2_addFields_66 : decode cX2_addFields 66 = .ok (.iload_n 1, 1) := by decide +kernel
theorem dX2_addFields_67 : decode cX2_addFields 67 = .ok (.invokevirtual 184, 3) := by decide +kernel
theorem dX2_addFields_70 : decode cX2_addFields 70 = .ok (.aload_n 0, 1) := by decide +kernel
theorem dX2_addFields_71 : decode cX2_addFields 71 = .ok (.getfield 12, 3) := by decide +kernel
theorem dX2_addFields_74 : decode cX2_addFields 74 = .ok (.getfield 148, 3) := by decide +kernel
theorem dX2_addFields_77 : decode cX2_addFields 77 = .ok (.iload 4, 2) := by decide +kernel
theorem dX2_addFields_79 : decode cX2_addFields 79 = .ok (.iconst 2, 1) := by decide +kernel
theorem dX2_addFields_80 : decode cX2_addFields 80 = .ok (.iload_n 2, 1) := by decide +kernel
theorem dX2_addFields_81 : decode cX2_addFields 81 = .ok (.iload_n 3, 1) := by decide +kernel
theorem dX2_addFields_82 : decode cX2_addFields 82 = .ok (.aload_n 0, 1) := by decide +kernel
theorem dX2_addFields_83 : decode cX2_addFields 83 = .ok (.getfield 83, 3) := by decide +kernel
theorem dX2_addFields_86 : decode cX2_addFields 86 = .ok (.imul, 1) := by decide +kernel
theorem dX2_addFields_87 : decode cX2_addFields 87 = .ok (.iadd, 1) := by decide +kernel
theorem dX2_addFields_88 : decode cX2_addFields 88 = .ok (.invokevirtual 184, 3) := by decide +kernel
theorem dX2_addFields_91 : decode cX2_addFields 91 = .ok (.aload_n 0, 1) := by decide +kernel
theorem dX2_addFields_92 : decode cX2_addFields 92 = .ok (.iload 4, 2) := by decide +kernel
theorem dX2_addFields_94 : decode cX2_addFields 94 = .ok (.invokevirtual 209, 3) := by decide +kernel
theorem dX2_addFields_97 : decode cX2_addFields 97 = .ok (.aload_n 0, 1) := by decide +kernel
theorem dX2_addFields_98 : decode cX2_addFields 98 = .ok (.invokevirtual 212, 3) := by decide +kernel
theorem dX2_addFields_101 : decode cX2_addFields 101 = .ok (.ifCond .eq 13, 3) := by decide +kernel
theorem dX2_addFields_104 : decode cX2_addFields 104 = .ok (.aload_n 0, 1) := by decide +kernel
theorem dX2_addFields_105 : decode cX2_addFields 105 = .ok (.iload 4, 2) := by decide +kernel
theorem dX2_addFields_107 : decode cX2_addFields 107 = .ok (.iload_n 3, 1) := by decide +kernel
theorem dX2_addFields_108 : decode cX2_addFields 108 = .ok (.invokevirtual 215, 3) := by decide +kernel
theorem dX2_addFields_111 : decode cX2_addFields 111 = .ok (.goto 9, 3) := by decide +kernel
theorem dX2_addFields_114 : decode cX2_addFields 114 = .ok (.aload_n 0, 1) := by decide +kernel
theorem dX2_addFields_115 : decode cX2_addFields 115 = .ok (.iload 4, 2) := by decide +kernel
theorem dX2_addFields_117 : decode cX2_addFields 117 = .ok (.invokevirtual 218, 3) := by decide +kernel
theorem dX2_addFields_120 : decode cX2_addFields 120 = .ok (.iinc 3 1, 3) := by decide +kernel
theorem dX2_addFields_123 : decode cX2_addFields 123 = .ok (.goto (-94), 3) := by decide +kernel
theorem dX2_addFields_126 : decode cX2_addFields 126 = .ok (.aload_n 0, 1) := by decide +kernel
theorem dX2_addFields_127 : decode cX2_addFields 127 = .ok (.invokevirtual 212, 3) := by decide +kernel
theorem dX2_addFields_130 : decode cX2_addFields 130 = .ok (.ifCond .ne 14, 3) := by decide +kernel
theorem dX2_addFields_133 : decode cX2_addFields 133 = .ok (.aload_n 0, 1) := by decide +kernel
theorem dX2_addFields_134 : decode cX2_addFields 134 = .ok (.getfield 12, 3) := by decide +kernel
theorem dX2_addFields_137 : decode cX2_addFields 137 = .ok (.aload_n 0, 1) := by decide +kernel
theorem dX2_addFields_138 : decode cX2_addFields 138 = .ok (.getfield 39, 3) := by decide +kernel
theorem dX2_addFields_141 : decode cX2_addFields 141 = .ok (.invokevirtual 221, 3) := by decide +kernel
theorem dX2_addFields_144 : decode cX2_addFields 144 = .ok (.return_, 1) := by decide +kernel
theorem dX2_setCommon_0 : decode cX2_setCommon 0 = .ok (.aload_n 0, 1) := by decide +kernel
theorem dX2_setCommon_1 : decode cX2_setCommon 1 = .ok (.getfield 12, 3) := by decide +kernel
theorem dX2_setCommon_4 : decode cX2_setCommon 4 = .ok (.getfield 148, 3) := by decide +kernel
theorem dX2_setCommon_7 : decode cX2_setCommon 7 = .ok (.iload_n 1, 1) := by decide +kernel
theorem dX2_setCommon_8 : decode cX2_setCommon 8 = .ok (.iconst 0, 1) := by decide +kernel
theorem dX2_setCommon_9 : decode cX2_setCommon 9 = .ok (.aload_n 0, 1) := by decide +kernel
theorem dX2_setCommon_10 : decode cX2_setCommon 10 = .ok (.invokevirtual 141, 3) := by decide +kernel
theorem dX2_setCommon_13 : decode cX2_setCommon 13 = .ok (.invokevirtual 184, 3) := by decide +kernel
theorem dX2_setCommon_16 : decode cX2_setCommon 16 = .ok (.aload_n 0, 1) := by decide +kernel
theorem dX2_setCommon_17 : decode cX2_setCommon 17 = .ok (.getfield 12, 3) := by decide +kernel
theorem dX2_setCommon_20 : decode cX2_setCommon 20 = .ok (.getfield 148, 3) := by decide +kernel
theorem dX2_setCommon_23 : decode cX2_setCommon 23 = .ok (.iload_n 1, 1) := by decide +kernel
theorem dX2_setCommon_24 : decode cX2_setCommon 24 = .ok (.iconst 1, 1) := by decide +kernel
theorem dX2_setCommon_25 : decode cX2_setCommon 25 = .ok (.aload_n 0, 1) := by decide +kernel
theorem dX2_setCommon_26 : decode cX2_setCommon 26 = .ok (.getfield 85, 3) := by decide +kernel
theorem dX2_setCommon_29 : decode cX2_setCommon 29 = .ok (.invokevirtual 184, 3) := by decide +kernel
theorem dX2_setCommon_32 : decode cX2_setCommon 32 = .ok (.aload_n 0, 1) := by decide +kernel
theorem dX2_setCommon_33 : decode cX2_setCommon 33 = .ok (.getfield 12, 3) := by decide +kernel
theorem dX2_setCommon_36 : decode cX2_setCommon 36 = .ok (.getfield 148, 3) := by decide +kernel
theorem dX2_setCommon_39 : decode cX2_setCommon 39 = .ok (.iload_n 1, 1) := by decide +kernel
theorem dX2_setCommon_40 : decode cX2_setCommon 40 = .ok (.iconst 3, 1) := by decide +kernel
theorem dX2_setCommon_41 : decode cX2_setCommon 41 = .ok (.aload_n 0, 1) := by decide +kernel
theorem dX2_setCommon_42 : decode cX2_setCommon 42 = .ok (.getfield 83, 3) := by decide +kernel
theorem dX2_setCommon_45 : decode cX2_setCommon 45 = .ok (.invokevirtual 184, 3) := by decide +kernel
theorem dX2_setCommon_48 : decode cX2_setCommon 48 = .ok (.aload_n 0, 1) := by decide +kernel
theorem dX2_setCommon_49 : decode cX2_setCommon 49 = .ok (.getfield 12, 3) := by decide +kernel
theorem dX2_setCommon_52 : decode cX2_setCommon 52 = .ok (.getfield 148, 3) := by decide +kernel
theorem dX2_setCommon_55 : decode cX2_setCommon 55 = .ok (.iload_n 1, 1) := by decide +kernel
theorem dX2_setCommon_56 : decode cX2_setCommon 56 = .ok (.iconst 4, 1) := by decide +kernel
theorem dX2_setCommon_57 : decode cX2_setCommon 57 = .ok (.aload_n 0, 1) := by decide +kernel
theorem dX2_setCommon_58 : decode cX2_setCommon 58 = .ok (.getfield 77, 3) := by decide +kernel
theorem dX2_setCommon_61 : decode cX2_setCommon 61 = .ok (.invokevirtual 184, 3) := by decide +kernel
theorem dX2_setCommon_64 : decode cX2_setCommon 64 = .ok (.aload_n 0, 1) := by decide +kernel
theorem dX2_setCommon_65 : decode cX2_setCommon 65 = .ok (.getfield 12, 3) := by decide +kernel
theorem dX2_setCommon_68 : decode cX2_setCommon 68 = .ok (.getfield 148, 3) := by decide +kernel
theorem dX2_setCommon_71 : decode cX2_setCommon 71 = .ok (.iload_n 1, 1) := by decide +kernel
theorem dX2_setCommon_72 : decode cX2_setCommon 72 = .ok (.iconst 5, 1) := by decide +kernel
theorem dX2_setCommon_73 : decode cX2_setCommon 73 = .ok (.aload_n 0, 1) := by decide +kernel
theorem dX2_setCommon_74 : decode cX2_setCommon 74 = .ok (.getfield 80, 3) := by decide +kernel
theorem dX2_setCommon_77 : decode cX2_setCommon 77 = .ok (.invokevirtual 184, 3) := by decide +kernel
theorem dX2_setCommon_80 : decode cX2_setCommon 80 = .ok (.aload_n 0, 1) := by decide +kernel
theorem dX2_setCommon_81 : decode cX2_setCommon 81 = .ok (.getfield 12, 3) := by decide +kernel
theorem dX2_setCommon_84 : decode cX2_setCommon 84 = .ok (.getfield 148, 3) := by decide +kernel
theorem dX2_setCommon_87 : decode cX2_setCommon 87 = .ok (.iload_n 1, 1) := by decide +kernel
theorem dX2_setCommon_88 : decode cX2_setCommon 88 = .ok (.bipush 8, 2) := by decide +kernel
theorem dX2_setCommon_90 : decode cX2_setCommon 90 = .ok (.aload_n 0, 1) := by decide +kernel
theorem dX2_setCommon_91 : decode cX2_setCommon 91 = .ok (.getfield 73, 3) := by decide +kernel
theorem dX2_setCommon_94 : decode cX2_setCommon 94 = .ok (.invokevirtual 184, 3) := by decide +kernel
theorem dX2_setCommon_97 : decode cX2_setCommon 97 = .ok (.aload_n 0, 1) := by decide +kernel
theorem dX2_setCommon_98 : decode cX2_setCommon 98 = .ok (.getfield 12, 3) := by decide +kernel
theorem dX2_setCommon_101 : decode cX2_setCommon 101 = .ok (.getfield 148, 3) := by decide +kernel
theorem dX2_setCommon_104 : decode cX2_setCommon 104 = .ok (.iload_n 1, 1) := by decide +kernel
theorem dX2_setCommon_105 : decode cX2_setCommon 105 = .ok (.bipush 11, 2) := by decide +kernel
theorem dX2_setCommon_107 : decode cX2_setCommon 107 = .ok (.aload_n 0, 1) := by decide +kernel
theorem dX2_setCommon_108 : decode cX2_setCommon 108 = .ok (.getfield 91, 3) := by decide +kernel
theorem dX2_setCommon_111 : decode cX2_setCommon 111 = .ok (.invokevirtual 184, 3) := by decide +kernel
theorem dX2_setCommon_114 : decode cX2_setCommon 114 = .ok (.return_, 1) := by decide +kernel
theorem dX2_setValue_0 : decode cX2_setValue 0 = .ok (.aload_n 0, 1) := by decide +kernel
theorem dX2_setValue_1 : decode cX2_setValue 1 = .ok (.getfield 12, 3) := by decide +kernel
theorem dX2_setValue_4 : decode cX2_setValue 4 = .ok (.getfield 148, 3) := by decide +kernel
theorem dX2_setValue_7 : decode cX2_setValue 7 = .ok (.iload_n 1, 1) := by decide +kernel
theorem dX2_setValue_8 : decode cX2_setValue 8 = .ok (.bipush 7, 2) := by decide +kernel
theorem dX2_setValue_10 : decode cX2_setValue 10 = .ok (.aload_n 0, 1) := by decide +kernel
theorem dX2_setValue_11 : decode cX2_setValue 11 = .ok (.getfield 21, 3) := by decide +kernel
theorem dX2_setValue_14 : decode cX2_setValue 14 = .ok (.getfield 125, 3) := by decide +kernel
theorem dX2_setValue_17 : decode cX2_setValue 17 = .ok (.iconst 4, 1) := by decide +kernel
theorem dX2_setValue_18 : decode cX2_setValue 18 = .ok (.idiv, 1) := by decide +kernel
theorem dX2_setValue_19 : decode cX2_setValue 19 = .ok (.iconst 2, 1) := by decide +kernel
theorem dX2_setValue_20 : decode cX2_setValue 20 = .ok (.irem, 1) := by decide +kernel
theorem dX2_setValue_21 : decode cX2_setValue 21 = .ok (.invokevirtual 184, 3) := by decide +kernel
theorem dX2_setValue_24 : decode cX2_setValue 24 = .ok (.aload_n 0, 1) := by decide +kernel
theorem dX2_setValue_25 : decode cX2_setValue 25 = .ok (.getfield 12, 3) := by decide +kernel
theorem dX2_setValue_28 : decode cX2_setValue 28 = .ok (.getfield 148, 3) := by decide +kernel
theorem dX2_setValue_31 : decode cX2_setValue 31 = .ok (.iload_n 1, 1) := by decide +kernel
theorem dX2_setValue_32 : decode cX2_setValue 32 = .ok (.bipush 9, 2) := by decide +kernel
theorem dX2_setValue_34 : decode cX2_setValue 34 = .ok (.iconst 1, 1) := by decide +kernel
theorem dX2_setValue_35 : decode cX2_setValue 35 = .ok (.invokevirtual 184, 3) := by decide +kernel
theorem dX2_setValue_38 : decode cX2_setValue 38 = .ok (.aload_n 0, 1) := by decide +kernel
theorem dX2_setValue_39 : decode cX2_setValue 39 = .ok (.getfield 12, 3) := by decide +kernel
theorem dX2_setValue_42 : decode cX2_setValue 42 = .ok (.getfield 148, 3) := by decide +kernel
theorem dX2_setValue_45 : decode cX2_setValue 45 = .ok (.iload_n 1, 1) := by decide +kernel
theorem dX2_setValue_46 : decode cX2_setValue 46 = .ok (.bipush 10, 2) := by decide +kernel
theorem dX2_setValue_48 : decode cX2_setValue 48 = .ok (.aload_n 0, 1) := by decide +kernel
theorem dX2_setValue_49 : decode cX2_setValue 49 = .ok (.getfield 39, 3) := by decide +kernel
theorem dX2_setValue_52 : decode cX2_setValue 52 = .ok (.iload_n 2, 1) := by decide +kernel
theorem dX2_setValue_53 : decode cX2_setValue 53 = .ok (.aload_n 0, 1) := by decide +kernel
theorem dX2_setValue_54 : decode cX2_setValue 54 = .ok (.getfield 39, 3) := by decide +kernel
theorem dX2_setValue_57 : decode cX2_setValue 57 = .ok (.invokevirtual 46, 3) := by decide +kernel
theorem dX2_setValue_60 : decode cX2_setValue 60 = .ok (.iconst 1, 1) := by decide +kernel
theorem dX2_setValue_61 : decode cX2_setValue 61 = .ok (.isub, 1) := by decide +kernel
theorem dX2_setValue_62 : decode cX2_setValue 62 = .ok (.invokestatic 225, 3) := by decide +kernel
theorem dX2_setValue_65 : decode cX2_setValue 65 = .ok (.invokevirtual 206, 3) := by decide +kernel
theorem dX2_setValue_68 : decode cX2_setValue 68 = .ok (.invokevirtual 184, 3) := by decide +kernel
theorem dX2_setValue_71 : decode cX2_setValue 71 = .ok (.return_, 1) := by decide +kernel
theorem dX2_setSlot_0 : decode cX2_setSlot 0 = .ok (.aload_n 0, 1) := by decide +kernel
theorem dX2_setSlot_1 : decode cX2_setSlot 1 = .ok (.getfield 12, 3) := by decide +kernel
theorem dX2_setSlot_4 : decode cX2_setSlot 4 = .ok (.getfield 148, 3) := by decide +kernel
theorem dX2_setSlot_7 : decode cX2_setSlot 7 = .ok (.iload_n 1, 1) := by decide +kernel
theorem dX2_setSlot_8 : decode cX2_setSlot 8 = .ok (.bipush 6, 2) := by decide +kernel
theorem dX2_setSlot_10 : decode cX2_setSlot 10 = .ok (.iconst 1, 1) := by decide +kernel
theorem dX2_setSlot_11 : decode cX2_setSlot 11 = .ok (.invokevirtual 184, 3) := by decide +kernel
theorem dX2_setSlot_14 : decode cX2_setSlot 14 = .ok (.aload_n 0, 1) := by decide +kernel
theorem dX2_setSlot_15 : decode cX2_setSlot 15 = .ok (.getfield 12, 3) := by decide +kernel
theorem dX2_setSlot_18 : decode cX2_setSlot 18 = .ok (.getfield 148, 3) := by decide +kernel
theorem dX2_setSlot_21 : decode cX2_setSlot 21 = .ok (.iload_n 1, 1) := by decide +kernel
theorem dX2_setSlot_22 : decode cX2_setSlot 22 = .ok (.bipush 9, 2) := by decide +kernel
theorem dX2_setSlot_24 : decode cX2_setSlot 24 = .ok (.aload_n 0, 1) := by decide +kernel
theorem dX2_setSlot_25 : decode cX2_setSlot 25 = .ok (.getfield 39, 3) := by decide +kernel
theorem dX2_setSlot_28 : decode cX2_setSlot 28 = .ok (.invokevirtual 46, 3) := by decide +kernel
theorem dX2_setSlot_31 : decode cX2_setSlot 31 = .ok (.invokevirtual 184, 3) := by decide +kernel
theorem dX2_setSlot_34 : decode cX2_setSlot 34 = .ok (.aload_n 0, 1) := by decide +kernel
theorem dX2_setSlot_35 : decode cX2_setSlot 35 = .ok (.getfield 12, 3) := by decide +kernel
theorem dX2_setSlot_38 : decode cX2_setSlot 38 = .ok (.getfield 148, 3) := by decide +kernel
theorem dX2_setSlot_41 : decode cX2_setSlot 41 = .ok (.iload_n 1, 1) := by decide +kernel
theorem dX2_setSlot_42 : decode cX2_setSlot 42 = .ok (.bipush 10, 2) := by decide +kernel
theorem dX2_setSlot_44 : decode cX2_setSlot 44 = .ok (.aload_n 0, 1) := by decide +kernel
theorem dX2_setSlot_45 : decode cX2_setSlot 45 = .ok (.getfield 39, 3) := by decide +kernel
theorem dX2_setSlot_48 : decode cX2_setSlot 48 = .ok (.iconst 0, 1) := by decide +kernel
theorem dX2_setSlot_49 : decode cX2_setSlot 49 = .ok (.invokevirtual 206, 3) := by decide +kernel
theorem dX2_setSlot_52 : decode cX2_setSlot 52 = .ok (.invokevirtual 184, 3) := by decide +kernel
theorem dX2_setSlot_55 : decode cX2_setSlot 55 = .ok (.aload_n 0, 1) := by decide +kernel
theorem dX2_setSlot_56 : decode cX2_setSlot 56 = .ok (.getfield 12, 3) := by decide +kernel
theorem dX2_setSlot_59 : decode cX2_setSlot 59 = .ok (.getfield 148, 3) := by decide +kernel
theorem dX2_setSlot_62 : decode cX2_setSlot 62 = .ok (.iload_n 1, 1) := by decide +kernel
theorem dX2_setSlot_63 : decode cX2_setSlot 63 = .ok (.bipush 13, 2) := by decide +kernel
theorem dX2_setSlot_65 : decode cX2_setSlot 65 = .ok (.aload_n 0, 1) := by decide +kernel
theorem dX2_setSlot_66 : decode cX2_setSlot 66 = .ok (.getfield 12, 3) := by decide +kernel
theorem dX2_setSlot_69 : decode cX2_setSlot 69 = .ok (.getfield 228, 3) := by decide +kernel
theorem dX2_setSlot_72 : decode cX2_setSlot 72 = .ok (.invokevirtual 46, 3) := by decide +kernel
theorem dX2_setSlot_75 : decode cX2_setSlot 75 = .ok (.invokevirtual 184, 3) := by decide +kernel
theorem dX2_setSlot_78 : decode cX2_setSlot 78 = .ok (.return_, 1) := by decide +kernel
