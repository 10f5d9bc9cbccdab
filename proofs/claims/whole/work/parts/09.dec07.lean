theorem dX6_signs_0 : decode cX6_signs 0 = .ok (.aload_n 0, 1) := by decide +kernel
theorem dX6_signs_1 : decode cX6_signs 1 = .ok (.invokestatic 7, 3) := by decide +kernel
theorem dX6_signs_4 : decode cX6_signs 4 = .ok (.invokevirtual 13, 3) := by decide +kernel
theorem dX6_signs_7 : decode cX6_signs 7 = .ok (.istore_n 1, 1) := by decide +kernel
theorem dX6_signs_8 : decode cX6_signs 8 = .ok (.aload_n 0, 1) := by decide +kernel
theorem dX6_signs_9 : decode cX6_signs 9 = .ok (.invokevirtual 19, 3) := by decide +kernel
theorem dX6_signs_12 : decode cX6_signs 12 = .ok (.ifCond .ne 5, 3) := by decide +kernel
theorem dX6_signs_15 : decode cX6_signs 15 = .ok (.iload_n 1, 1) := by decide +kernel
theorem dX6_signs_16 : decode cX6_signs 16 = .ok (.ireturn, 1) := by decide +kernel
theorem dX6_signs_17 : decode cX6_signs 17 = .ok (.aload_n 0, 1) := by decide +kernel
theorem dX6_signs_18 : decode cX6_signs 18 = .ok (.invokestatic 25, 3) := by decide +kernel
theorem dX6_signs_21 : decode cX6_signs 21 = .ok (.lstore_n 2, 1) := by decide +kernel
theorem dX6_signs_22 : decode cX6_signs 22 = .ok (.iload_n 1, 1) := by decide +kernel
theorem dX6_signs_23 : decode cX6_signs 23 = .ok (.iconst 1, 1) := by decide +kernel
theorem dX6_signs_24 : decode cX6_signs 24 = .ok (.iadd, 1) := by decide +kernel
theorem dX6_signs_25 : decode cX6_signs 25 = .ok (.lload_n 2, 1) := by decide +kernel
theorem dX6_signs_26 : decode cX6_signs 26 = .ok (.lconst 0, 1) := by decide +kernel
theorem dX6_signs_27 : decode cX6_signs 27 = .ok (.lcmp, 1) := by decide +kernel
theorem dX6_signs_28 : decode cX6_signs 28 = .ok (.ifCond .ge 7, 3) := by decide +kernel
theorem dX6_signs_31 : decode cX6_signs 31 = .ok (.iconst 1, 1) := by decide +kernel
theorem dX6_signs_32 : decode cX6_signs 32 = .ok (.goto 4, 3) := by decide +kernel
theorem dX6_signs_35 : decode cX6_signs 35 = .ok (.iconst 0, 1) := by decide +kernel
theorem dX6_signs_36 : decode cX6_signs 36 = .ok (.iadd, 1) := by decide +kernel
theorem dX6_signs_37 : decode cX6_signs 37 = .ok (.lload_n 2, 1) := by decide +kernel
theorem dX6_signs_38 : decode cX6_signs 38 = .ok (.invokestatic 29, 3) := by decide +kernel
theorem dX6_signs_41 : decode cX6_signs 41 = .ok (.invokestatic 35, 3) := by decide +kernel
theorem dX6_signs_44 : decode cX6_signs 44 = .ok (.iadd, 1) := by decide +kernel
theorem dX6_signs_45 : decode cX6_signs 45 = .ok (.ireturn, 1) := by decide +kernel
theorem dX6_signAt_0 : decode cX6_signAt 0 = .ok (.aload_n 0, 1) := by decide +kernel
theorem dX6_signAt_1 : decode cX6_signAt 1 = .ok (.invokestatic 7, 3) := by decide +kernel
theorem dX6_signAt_4 : decode cX6_signAt 4 = .ok (.astore_n 2, 1) := by decide +kernel
theorem dX6_signAt_5 : decode cX6_signAt 5 = .ok (.iload_n 1, 1) := by decide +kernel
theorem dX6_signAt_6 : decode cX6_signAt 6 = .ok (.ifCond .lt 17, 3) := by decide +kernel
theorem dX6_signAt_9 : decode cX6_signAt 9 = .ok (.iload_n 1, 1) := by decide +kernel
theorem dX6_signAt_10 : decode cX6_signAt 10 = .ok (.aload_n 2, 1) := by decide +kernel
theorem dX6_signAt_11 : decode cX6_signAt 11 = .ok (.invokevirtual 13, 3) := by decide +kernel
theorem dX6_signAt_14 : decode cX6_signAt 14 = .ok (.if_icmp .ge 9, 3) := by decide +kernel
theorem dX6_signAt_17 : decode cX6_signAt 17 = .ok (.aload_n 2, 1) := by decide +kernel
theorem dX6_signAt_18 : decode cX6_signAt 18 = .ok (.iload_n 1, 1) := by decide +kernel
theorem dX6_signAt_19 : decode cX6_signAt 19 = .ok (.invokevirtual 39, 3) := by decide +kernel
theorem dX6_signAt_22 : decode cX6_signAt 22 = .ok (.ireturn, 1) := by decide +kernel
theorem dX6_signAt_23 : decode cX6_signAt 23 = .ok (.iload_n 1, 1) := by decide +kernel
theorem dX6_signAt_24 : decode cX6_signAt 24 = .ok (.aload_n 2, 1) := by decide +kernel
theorem dX6_signAt_25 : decode cX6_signAt 25 = .ok (.invokevirtual 13, 3) := by decide +kernel
theorem dX6_signAt_28 : decode cX6_signAt 28 = .ok (.if_icmp .ne 6, 3) := by decide +kernel
theorem dX6_signAt_31 : decode cX6_signAt 31 = .ok (.bipush 32, 2) := by decide +kernel
theorem dX6_signAt_33 : decode cX6_signAt 33 = .ok (.ireturn, 1) := by decide +kernel
theorem dX6_signAt_34 : decode cX6_signAt 34 = .ok (.aload_n 0, 1) := by decide +kernel
theorem dX6_signAt_35 : decode cX6_signAt 35 = .ok (.invokestatic 25, 3) := by decide +kernel
theorem dX6_signAt_38 : decode cX6_signAt 38 = .ok (.lstore_n 3, 1) := by decide +kernel
theorem dX6_signAt_39 : decode cX6_signAt 39 = .ok (.lload_n 3, 1) := by decide +kernel
theorem dX6_signAt_40 : decode cX6_signAt 40 = .ok (.lconst 0, 1) := by decide +kernel
theorem dX6_signAt_41 : decode cX6_signAt 41 = .ok (.lcmp, 1) := by decide +kernel
theorem dX6_signAt_42 : decode cX6_signAt 42 = .ok (.ifCond .ge 16, 3) := by decide +kernel
theorem dX6_signAt_45 : decode cX6_signAt 45 = .ok (.iload_n 1, 1) := by decide +kernel
theorem dX6_signAt_46 : decode cX6_signAt 46 = .ok (.aload_n 2, 1) := by decide +kernel
theorem dX6_signAt_47 : decode cX6_signAt 47 = .ok (.invokevirtual 13, 3) := by decide +kernel
theorem dX6_signAt_50 : decode cX6_signAt 50 = .ok (.iconst 1, 1) := by decide +kernel
theorem dX6_signAt_51 : decode cX6_signAt 51 = .ok (.iadd, 1) := by decide +kernel
theorem dX6_signAt_52 : decode cX6_signAt 52 = .ok (.if_icmp .ne 6, 3) := by decide +kernel
theorem dX6_signAt_55 : decode cX6_signAt 55 = .ok (.bipush 45, 2) := by decide +kernel
theorem dX6_signAt_57 : decode cX6_signAt 57 = .ok (.ireturn, 1) := by decide +kernel
theorem dX6_signAt_58 : decode cX6_signAt 58 = .ok (.lload_n 3, 1) := by decide +kernel
theorem dX6_signAt_59 : decode cX6_signAt 59 = .ok (.invokestatic 29, 3) := by decide +kernel
theorem dX6_signAt_62 : decode cX6_signAt 62 = .ok (.aload_n 0, 1) := by decide +kernel
theorem dX6_signAt_63 : decode cX6_signAt 63 = .ok (.invokestatic 43, 3) := by decide +kernel
theorem dX6_signAt_66 : decode cX6_signAt 66 = .ok (.iconst 1, 1) := by decide +kernel
theorem dX6_signAt_67 : decode cX6_signAt 67 = .ok (.isub, 1) := by decide +kernel
theorem dX6_signAt_68 : decode cX6_signAt 68 = .ok (.iload_n 1, 1) := by decide +kernel
theorem dX6_signAt_69 : decode cX6_signAt 69 = .ok (.isub, 1) := by decide +kernel
theorem dX6_signAt_70 : decode cX6_signAt 70 = .ok (.invokestatic 47, 3) := by decide +kernel
theorem dX6_signAt_73 : decode cX6_signAt 73 = .ok (.ireturn, 1) := by decide +kernel
theorem dX6_numberOf_0 : decode cX6_numberOf 0 = .ok (.aload_n 0, 1) := by decide +kernel
theorem dX6_numberOf_1 : decode cX6_numberOf 1 = .ok (.getfield 51, 3) := by decide +kernel
theorem dX6_numberOf_4 : decode cX6_numberOf 4 = .ok (.iconst 1, 1) := by decide +kernel
theorem dX6_numberOf_5 : decode cX6_numberOf 5 = .ok (.if_icmp .ne 23, 3) := by decide +kernel
theorem dX6_numberOf_8 : decode cX6_numberOf 8 = .ok (.aload_n 0, 1) := by decide +kernel
theorem dX6_numberOf_9 : decode cX6_numberOf 9 = .ok (.getfield 55, 3) := by decide +kernel
theorem dX6_numberOf_12 : decode cX6_numberOf 12 = .ok (.iconst 1, 1) := by decide +kernel
theorem dX6_numberOf_13 : decode cX6_numberOf 13 = .ok (.if_icmp .eq 11, 3) := by decide +kernel
theorem dX6_numberOf_16 : decode cX6_numberOf 16 = .ok (.aload_n 0, 1) := by decide +kernel
theorem dX6_numberOf_17 : decode cX6_numberOf 17 = .ok (.getfield 55, 3) := by decide +kernel
theorem dX6_numberOf_20 : decode cX6_numberOf 20 = .ok (.iconst 2, 1) := by decide +kernel
theorem dX6_numberOf_21 : decode cX6_numberOf 21 = .ok (.if_icmp .ne 7, 3) := by decide +kernel
theorem dX6_numberOf_24 : decode cX6_numberOf 24 = .ok (.iconst 1, 1) := by decide +kernel
theorem dX6_numberOf_25 : decode cX6_numberOf 25 = .ok (.goto 4, 3) := by decide +kernel
theorem dX6_numberOf_28 : decode cX6_numberOf 28 = .ok (.iconst 0, 1) := by decide +kernel
theorem dX6_numberOf_29 : decode cX6_numberOf 29 = .ok (.istore_n 1, 1) := by decide +kernel
theorem dX6_numberOf_30 : decode cX6_numberOf 30 = .ok (.iload_n 1, 1) := by decide +kernel
theorem dX6_numberOf_31 : decode cX6_numberOf 31 = .ok (.ifCond .eq 11, 3) := by decide +kernel
theorem dX6_numberOf_34 : decode cX6_numberOf 34 = .ok (.aload_n 0, 1) := by decide +kernel
theorem dX6_numberOf_35 : decode cX6_numberOf 35 = .ok (.getfield 58, 3) := by decide +kernel
theorem dX6_numberOf_38 : decode cX6_numberOf 38 = .ok (.i2l, 1) := by decide +kernel
theorem dX6_numberOf_39 : decode cX6_numberOf 39 = .ok (.goto 8, 3) := by decide +kernel
theorem dX6_numberOf_42 : decode cX6_numberOf 42 = .ok (.aload_n 0, 1) := by decide +kernel
theorem dX6_numberOf_43 : decode cX6_numberOf 43 = .ok (.getfield 61, 3) := by decide +kernel
theorem dX6_numberOf_46 : decode cX6_numberOf 46 = .ok (.i2l, 1) := by decide +kernel
theorem dX6_numberOf_47 : decode cX6_numberOf 47 = .ok (.lreturn, 1) := by decide +kernel
theorem dX6_figures_0 : decode cX6_figures 0 = .ok (.iconst 1, 1) := by decide +kernel
theorem dX6_figures_1 : decode cX6_figures 1 = .ok (.istore_n 2, 1) := by decide +kernel
theorem dX6_figures_2 : decode cX6_figures 2 = .ok (.lload_n 0, 1) := by decide +kernel
theorem dX6_figures_3 : decode cX6_figures 3 = .ok (.ldc2_w 64, 3) := by decide +kernel
theorem dX6_figures_6 : decode cX6_figures 6 = .ok (.ldiv, 1) := by decide +kernel
theorem dX6_figures_7 : decode cX6_figures 7 = .ok (.lstore_n 3, 1) := by decide +kernel
theorem dX6_figures_8 : decode cX6_figures 8 = .ok (.lload_n 3, 1) := by decide +kernel
theorem dX6_figures_9 : decode cX6_figures 9 = .ok (.lconst 0, 1) := by decide +kernel
theorem dX6_figures_10 : decode cX6_figures 10 = .ok (.lcmp, 1) := by decide +kernel
theorem dX6_figures_11 : decode cX6_figures 11 = .ok (.ifCond .le 21, 3) := by decide +kernel
theorem dX6_figures_14 : decode cX6_figures 14 = .ok (.iload_n 2, 1) := by decide +kernel
theorem dX6_figures_15 : decode cX6_figures 15 = .ok (.bipush 10, 2) := by decide +kernel
theorem dX6_figures_17 : decode cX6_figures 17 = .ok (.if_icmp .ge 15, 3) := by decide +kernel
theorem dX6_figures_20 : decode cX6_figures 20 = .ok (.iinc 2 1, 3) := by decide +kernel
theorem dX6_figures_23 : decode cX6_figures 23 = .ok (.lload_n 3, 1) := by decide +kernel
theorem dX6_figures_24 : decode cX6_figures 24 = .ok (.ldc2_w 64, 3) := by decide +kernel
theorem dX6_figures_27 : decode cX6_figures 27 = .ok (.ldiv, 1) := by decide +kernel
theorem dX6_figures_28 : decode cX6_figures 28 = .ok (.lstore_n 3, 1) := by decide +kernel
theorem dX6_figures_29 : decode cX6_figures 29 = .ok (.goto (-21), 3) := by decide +kernel
theorem dX6_figures_32 : decode cX6_figures 32 = .ok (.iload_n 2, 1) := by decide +kernel
theorem dX6_figures_33 : decode cX6_figures 33 = .ok (.ireturn, 1) := by decide +kernel
theorem dX6_figure_0 : decode cX6_figure 0 = .ok (.lload_n 0, 1) := by decide +kernel
theorem dX6_figure_1 : decode cX6_figure 1 = .ok (.lstore_n 3, 1) := by decide +kernel
theorem dX6_figure_2 : decode cX6_figure 2 = .ok (.iconst 0, 1) := by decide +kernel
theorem dX6_figure_3 : decode cX6_figure 3 = .ok (.istore 5, 2) := by decide +kernel
theorem dX6_figure_5 : decode cX6_figure 5 = .ok (.iload 5, 2) := by decide +kernel
theorem dX6_figure_7 : decode cX6_figure 7 = .ok (.iload_n 2, 1) := by decide +kernel
theorem dX6_figure_8 : decode cX6_figure 8 = .ok (.if_icmp .ge 22, 3) := by decide +kernel
theorem dX6_figure_11 : decode cX6_figure 11 = .ok (.iload 5, 2) := by decide +kernel
theorem dX6_figure_13 : decode cX6_figure 13 = .ok (.bipush 10, 2) := by decide +kernel
theorem dX6_figure_15 : decode cX6_figure 15 = .ok (.if_icmp .ge 15, 3) := by decide +kernel
theorem dX6_figure_18 : decode cX6_figure 18 = .ok (.lload_n 3, 1) := by decide +kernel
theorem dX6_figure_19 : decode cX6_figure 19 = .ok (.ldc2_w 64, 3) := by decide +kernel
theorem dX6_figure_22 : decode cX6_figure 22 = .ok (.ldiv, 1) := by decide +kernel
theorem dX6_figure_23 : decode cX6_figure 23 = .ok (.lstore_n 3, 1) := by decide +kernel
theorem dX6_figure_24 : decode cX6_figure 24 = .ok (.iinc 5 1, 3) := by decide +kernel
theorem dX6_figure_27 : decode cX6_figure 27 = .ok (.goto (-22), 3) := by decide +kernel
theorem dX6_figure_30 : decode cX6_figure 30 = .ok (.bipush 48, 2) := by decide +kernel
theorem dX6_figure_32 : decode cX6_figure 32 = .ok (.lload_n 3, 1) := by decide +kernel
theorem dX6_figure_33 : decode cX6_figure 33 = .ok (.ldc2_w 64, 3) := by decide +kernel
theorem dX6_figure_36 : decode cX6_figure 36 = .ok (.lrem, 1) := by decide +kernel
theorem dX6_figure_37 : decode cX6_figure 37 = .ok (.l2i, 1) := by decide +kernel
theorem dX6_figure_38 : decode cX6_figure 38 = .ok (.iadd, 1) := by decide +kernel
theorem dX6_figure_39 : decode cX6_figure 39 = .ok (.ireturn, 1) := by decide +kernel
theorem dX6_word_0 : decode cX6_word 0 = .ok (.aload_n 0, 1) := by decide +kernel
theorem dX6_word_1 : decode cX6_word 1 = .ok (.getfield 51, 3) := by decide +kernel
theorem dX6_word_4 : decode cX6_word 4 = .ok (.tableswitch 52 0 2 #[28, 36, 44], 28) := by decide +kernel
theorem dX6_word_32 : decode cX6_word 32 = .ok (.aload_n 0, 1) := by decide +kernel
theorem dX6_word_33 : decode cX6_word 33 = .ok (.getfield 55, 3) := by decide +kernel
theorem dX6_word_36 : decode cX6_word 36 = .ok (.invokestatic 66, 3) := by decide +kernel
theorem dX6_word_39 : decode cX6_word 39 = .ok (.areturn, 1) := by decide +kernel
theorem dX6_word_40 : decode cX6_word 40 = .ok (.aload_n 0, 1) := by decide +kernel
theorem dX6_word_41 : decode cX6_word 41 = .ok (.getfield 55, 3) := by decide +kernel
theorem dX6_word_44 : decode cX6_word 44 = .ok (.invokestatic 70, 3) := by decide +kernel
theorem dX6_word_47 : decode cX6_word 47 = .ok (.areturn, 1) := by decide +kernel
theorem dX6_word_48 : decode cX6_word 48 = .ok (.aload_n 0, 1) := by decide +kernel
theorem dX6_word_49 : decode cX6_word 49 = .ok (.getfield 55, 3) := by decide +kernel
theorem dX6_word_52 : decode cX6_word 52 = .ok (.invokestatic 73, 3) := by decide +kernel
theorem dX6_word_55 : decode cX6_word 55 = .ok (.areturn, 1) := by decide +kernel
theorem dX6_word_56 : decode cX6_word 56 = .ok (.ldc 76, 2) := by decide +kernel
theorem dX6_word_58 : decode cX6_word 58 = .ok (.areturn, 1) := by decide +kernel
theorem dX6_shapeWord_0 : decode cX6_shapeWord 0 = .ok (.iload_n 0, 1) := by decide +kernel
theorem dX6_shapeWord_1 : decode cX6_shapeWord 1 = .ok (.tableswitch 50 8 12 #[35, 38, 41, 44, 47], 35) := by decide +kernel
theorem dX6_shapeWord_36 : decode cX6_shapeWord 36 = .ok (.ldc 78, 2) := by decide +kernel
theorem dX6_shapeWord_38 : decode cX6_shapeWord 38 = .ok (.areturn, 1) := by decide +kernel
theorem dX6_shapeWord_39 : decode cX6_shapeWord 39 = .ok (.ldc 80, 2) := by decide +kernel
theorem dX6_shapeWord_41 : decode cX6_shapeWord 41 = .ok (.areturn, 1) := by decide +kernel
theorem dX6_shapeWord_42 : decode cX6_shapeWord 42 = .ok (.ldc 82, 2) := by decide +kernel
theorem dX6_shapeWord_44 : decode cX6_shapeWord 44 = .ok (.areturn, 1) := by decide +kernel
theorem dX6_shapeWord_45 : decode cX6_shapeWord 45 = .ok (.ldc 84, 2) := by decide +kernel
theorem dX6_shapeWord_47 : decode cX6_shapeWord 47 = .ok (.areturn, 1) := by decide +kernel
theorem dX6_shapeWord_48 : decode cX6_shapeWord 48 = .ok (.ldc 86, 2) := by decide +kernel
theorem dX6_shapeWord_50 : decode cX6_shapeWord 50 = .ok (.areturn, 1) := by decide +kernel
theorem dX6_shapeWord_51 : decode cX6_shapeWord 51 = .ok (.ldc 76, 2) := by decide +kernel
theorem dX6_shapeWord_53 : decode cX6_shapeWord 53 = .ok (.areturn, 1) := by decide +kernel
theorem dX6_numberWord_0 : decode cX6_numberWord 0 = .ok (.iload_n 0, 1) := by decide +kernel
theorem dX6_numberWord_1 : decode cX6_numberWord 1 = .ok (.tableswitch 87 0 11 #[63, 66, 69, 87, 87, 87, 87, 72, 75, 78, 81, 84], 63) := by decide +kernel
theorem dX6_numberWord_64 : decode cX6_numberWord 64 = .ok (.ldc 88, 2) := by decide +kernel
theorem dX6_numberWord_66 : decode cX6_numberWord 66 = .ok (.areturn, 1) := by decide +kernel
theorem dX6_numberWord_67 : decode cX6_numberWord 67 = .ok (.ldc 90, 2) := by decide +kernel
theorem dX6_numberWord_69 : decode cX6_numberWord 69 = .ok (.areturn, 1) := by decide +kernel
theorem dX6_numberWord_70 : decode cX6_numberWord 70 = .ok (.ldc 92, 2) := by decide +kernel
theorem dX6_numberWord_72 : decode cX6_numberWord 72 = .ok (.areturn, 1) := by decide +kernel
theorem dX6_numberWord_73 : decode cX6_numberWord 73 = .ok (.ldc 94, 2) := by decide +kernel
theorem dX6_numberWord_75 : decode cX6_numberWord 75 = .ok (.areturn, 1) := by decide +kernel
theorem dX6_numberWord_76 : decode cX6_numberWord 76 = .ok (.ldc 96, 2) := by decide +kernel
theorem dX6_numberWord_78 : decode cX6_numberWord 78 = .ok (.areturn, 1) := by decide +kernel
theorem dX6_numberWord_79 : decode cX6_numberWord 79 = .ok (.ldc 98, 2) := by decide +kernel
theorem dX6_numberWord_81 : decode cX6_numberWord 81 = .ok (.areturn, 1) := by decide +kernel
theorem dX6_numberWord_82 : decode cX6_numberWord 82 = .ok (.ldc 100, 2) := by decide +kernel
theorem dX6_numberWord_84 : decode cX6_numberWord 84 = .ok (.areturn, 1) := by decide +kernel
theorem dX6_numberWord_85 : decode cX6_numberWord 85 = .ok (.ldc 102, 2) := by decide +kernel
theorem dX6_numberWord_87 : decode cX6_numberWord 87 = .ok (.areturn, 1) := by decide +kernel
theorem dX6_numberWord_88 : decode cX6_numberWord 88 = .ok (.ldc 76, 2) := by decide +kernel
theorem dX6_numberWord_90 : decode cX6_numberWord 90 = .ok (.areturn, 1) := by decide +kernel
theorem dX6_useWord_0 : decode cX6_useWord 0 = .ok (.iload_n 0, 1) := by decide +kernel
theorem dX6_useWord_1 : decode cX6_useWord 1 = .ok (.tableswitch 36 0 2 #[27, 30, 33], 27) := by decide +kernel
theorem dX6_useWord_28 : decode cX6_useWord 28 = .ok (.ldc 104, 2) := by decide +kernel
theorem dX6_useWord_30 : decode cX6_useWord 30 = .ok (.areturn, 1) := by decide +kernel
theorem dX6_useWord_31 : decode cX6_useWord 31 = .ok (.ldc 106, 2) := by decide +kernel
theorem dX6_useWord_33 : decode cX6_useWord 33 = .ok (.areturn, 1) := by decide +kernel
theorem dX6_useWord_34 : decode cX6_useWord 34 = .ok (.ldc 108, 2) := by decide +kernel
theorem dX6_useWord_36 : decode cX6_useWord 36 = .ok (.areturn, 1) := by decide +kernel
theorem dX6_useWord_37 : decode cX6_useWord 37 = .ok (.ldc 76, 2) := by decide +kernel
theorem dX6_useWord_39 : decode cX6_useWord 39 = .ok (.areturn, 1) := by decide +kernel
