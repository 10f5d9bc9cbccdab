theorem dX0_copyFrom_0 : decode cX0_copyFrom 0 = .ok (.aload_n 0, 1) := by decide +kernel
theorem dX0_copyFrom_1 : decode cX0_copyFrom 1 = .ok (.getfield 14, 3) := by decide +kernel
theorem dX0_copyFrom_4 : decode cX0_copyFrom 4 = .ok (.aload_n 1, 1) := by decide +kernel
theorem dX0_copyFrom_5 : decode cX0_copyFrom 5 = .ok (.getfield 14, 3) := by decide +kernel
theorem dX0_copyFrom_8 : decode cX0_copyFrom 8 = .ok (.invokevirtual 39, 3) := by decide +kernel
theorem dX0_copyFrom_11 : decode cX0_copyFrom 11 = .ok (.aload_n 0, 1) := by decide +kernel
theorem dX0_copyFrom_12 : decode cX0_copyFrom 12 = .ok (.getfield 20, 3) := by decide +kernel
theorem dX0_copyFrom_15 : decode cX0_copyFrom 15 = .ok (.aload_n 1, 1) := by decide +kernel
theorem dX0_copyFrom_16 : decode cX0_copyFrom 16 = .ok (.getfield 20, 3) := by decide +kernel
theorem dX0_copyFrom_19 : decode cX0_copyFrom 19 = .ok (.invokevirtual 39, 3) := by decide +kernel
theorem dX0_copyFrom_22 : decode cX0_copyFrom 22 = .ok (.aload_n 0, 1) := by decide +kernel
theorem dX0_copyFrom_23 : decode cX0_copyFrom 23 = .ok (.getfield 26, 3) := by decide +kernel
theorem dX0_copyFrom_26 : decode cX0_copyFrom 26 = .ok (.aload_n 1, 1) := by decide +kernel
theorem dX0_copyFrom_27 : decode cX0_copyFrom 27 = .ok (.getfield 26, 3) := by decide +kernel
theorem dX0_copyFrom_30 : decode cX0_copyFrom 30 = .ok (.invokevirtual 43, 3) := by decide +kernel
theorem dX0_copyFrom_33 : decode cX0_copyFrom 33 = .ok (.aload_n 0, 1) := by decide +kernel
theorem dX0_copyFrom_34 : decode cX0_copyFrom 34 = .ok (.getfield 35, 3) := by decide +kernel
theorem dX0_copyFrom_37 : decode cX0_copyFrom 37 = .ok (.aload_n 1, 1) := by decide +kernel
theorem dX0_copyFrom_38 : decode cX0_copyFrom 38 = .ok (.getfield 35, 3) := by decide +kernel
theorem dX0_copyFrom_41 : decode cX0_copyFrom 41 = .ok (.invokevirtual 46, 3) := by decide +kernel
theorem dX0_copyFrom_44 : decode cX0_copyFrom 44 = .ok (.aload_n 0, 1) := by decide +kernel
theorem dX0_copyFrom_45 : decode cX0_copyFrom 45 = .ok (.aload_n 1, 1) := by decide +kernel
theorem dX0_copyFrom_46 : decode cX0_copyFrom 46 = .ok (.getfield 49, 3) := by decide +kernel
theorem dX0_copyFrom_49 : decode cX0_copyFrom 49 = .ok (.putfield 49, 3) := by decide +kernel
theorem dX0_copyFrom_52 : decode cX0_copyFrom 52 = .ok (.aload_n 0, 1) := by decide +kernel
theorem dX0_copyFrom_53 : decode cX0_copyFrom 53 = .ok (.aload_n 1, 1) := by decide +kernel
theorem dX0_copyFrom_54 : decode cX0_copyFrom 54 = .ok (.getfield 53, 3) := by decide +kernel
theorem dX0_copyFrom_57 : decode cX0_copyFrom 57 = .ok (.putfield 53, 3) := by decide +kernel
theorem dX0_copyFrom_60 : decode cX0_copyFrom 60 = .ok (.return_, 1) := by decide +kernel
theorem dX0_become_0 : decode cX0_become 0 = .ok (.aload_n 0, 1) := by decide +kernel
theorem dX0_become_1 : decode cX0_become 1 = .ok (.getfield 26, 3) := by decide +kernel
theorem dX0_become_4 : decode cX0_become 4 = .ok (.aload_n 1, 1) := by decide +kernel
theorem dX0_become_5 : decode cX0_become 5 = .ok (.invokevirtual 43, 3) := by decide +kernel
theorem dX0_become_8 : decode cX0_become 8 = .ok (.aload_n 0, 1) := by decide +kernel
theorem dX0_become_9 : decode cX0_become 9 = .ok (.getfield 35, 3) := by decide +kernel
theorem dX0_become_12 : decode cX0_become 12 = .ok (.invokevirtual 56, 3) := by decide +kernel
theorem dX0_become_15 : decode cX0_become 15 = .ok (.aload_n 0, 1) := by decide +kernel
theorem dX0_become_16 : decode cX0_become 16 = .ok (.getfield 20, 3) := by decide +kernel
theorem dX0_become_19 : decode cX0_become 19 = .ok (.invokevirtual 59, 3) := by decide +kernel
theorem dX0_become_22 : decode cX0_become 22 = .ok (.return_, 1) := by decide +kernel
theorem dX0_idOfLetter_0 : decode cX0_idOfLetter 0 = .ok (.aload_n 0, 1) := by decide +kernel
theorem dX0_idOfLetter_1 : decode cX0_idOfLetter 1 = .ok (.getfield 26, 3) := by decide +kernel
theorem dX0_idOfLetter_4 : decode cX0_idOfLetter 4 = .ok (.invokevirtual 60, 3) := by decide +kernel
theorem dX0_idOfLetter_7 : decode cX0_idOfLetter 7 = .ok (.iconst 1, 1) := by decide +kernel
theorem dX0_idOfLetter_8 : decode cX0_idOfLetter 8 = .ok (.if_icmp .ne 14, 3) := by decide +kernel
theorem dX0_idOfLetter_11 : decode cX0_idOfLetter 11 = .ok (.aload_n 0, 1) := by decide +kernel
theorem dX0_idOfLetter_12 : decode cX0_idOfLetter 12 = .ok (.getfield 20, 3) := by decide +kernel
theorem dX0_idOfLetter_15 : decode cX0_idOfLetter 15 = .ok (.iconst 0, 1) := by decide +kernel
theorem dX0_idOfLetter_16 : decode cX0_idOfLetter 16 = .ok (.invokevirtual 64, 3) := by decide +kernel
theorem dX0_idOfLetter_19 : decode cX0_idOfLetter 19 = .ok (.goto 4, 3) := by decide +kernel
theorem dX0_idOfLetter_22 : decode cX0_idOfLetter 22 = .ok (.iconst 0, 1) := by decide +kernel
theorem dX0_idOfLetter_23 : decode cX0_idOfLetter 23 = .ok (.ireturn, 1) := by decide +kernel
theorem dX0_letterFits_0 : decode cX0_letterFits 0 = .ok (.aload_n 0, 1) := by decide +kernel
theorem dX0_letterFits_1 : decode cX0_letterFits 1 = .ok (.getfield 26, 3) := by decide +kernel
theorem dX0_letterFits_4 : decode cX0_letterFits 4 = .ok (.iconst 0, 1) := by decide +kernel
theorem dX0_letterFits_5 : decode cX0_letterFits 5 = .ok (.aload_n 0, 1) := by decide +kernel
theorem dX0_letterFits_6 : decode cX0_letterFits 6 = .ok (.invokevirtual 68, 3) := by decide +kernel
theorem dX0_letterFits_9 : decode cX0_letterFits 9 = .ok (.invokevirtual 71, 3) := by decide +kernel
theorem dX0_letterFits_12 : decode cX0_letterFits 12 = .ok (.istore_n 1, 1) := by decide +kernel
theorem dX0_letterFits_13 : decode cX0_letterFits 13 = .ok (.aload_n 0, 1) := by decide +kernel
theorem dX0_letterFits_14 : decode cX0_letterFits 14 = .ok (.getfield 20, 3) := by decide +kernel
theorem dX0_letterFits_17 : decode cX0_letterFits 17 = .ok (.invokevirtual 75, 3) := by decide +kernel
theorem dX0_letterFits_20 : decode cX0_letterFits 20 = .ok (.ifCond .le 33, 3) := by decide +kernel
theorem dX0_letterFits_23 : decode cX0_letterFits 23 = .ok (.iload_n 1, 1) := by decide +kernel
theorem dX0_letterFits_24 : decode cX0_letterFits 24 = .ok (.ifCond .le 29, 3) := by decide +kernel
theorem dX0_letterFits_27 : decode cX0_letterFits 27 = .ok (.aload_n 0, 1) := by decide +kernel
theorem dX0_letterFits_28 : decode cX0_letterFits 28 = .ok (.getfield 20, 3) := by decide +kernel
theorem dX0_letterFits_31 : decode cX0_letterFits 31 = .ok (.invokevirtual 75, 3) := by decide +kernel
theorem dX0_letterFits_34 : decode cX0_letterFits 34 = .ok (.aload_n 0, 1) := by decide +kernel
theorem dX0_letterFits_35 : decode cX0_letterFits 35 = .ok (.getfield 26, 3) := by decide +kernel
theorem dX0_letterFits_38 : decode cX0_letterFits 38 = .ok (.invokevirtual 60, 3) := by decide +kernel
theorem dX0_letterFits_41 : decode cX0_letterFits 41 = .ok (.isub, 1) := by decide +kernel
theorem dX0_letterFits_42 : decode cX0_letterFits 42 = .ok (.iload_n 1, 1) := by decide +kernel
theorem dX0_letterFits_43 : decode cX0_letterFits 43 = .ok (.invokestatic 78, 3) := by decide +kernel
theorem dX0_letterFits_46 : decode cX0_letterFits 46 = .ok (.if_icmp .ne 7, 3) := by decide +kernel
theorem dX0_letterFits_49 : decode cX0_letterFits 49 = .ok (.iconst 1, 1) := by decide +kernel
theorem dX0_letterFits_50 : decode cX0_letterFits 50 = .ok (.goto 4, 3) := by decide +kernel
theorem dX0_letterFits_53 : decode cX0_letterFits 53 = .ok (.iconst 0, 1) := by decide +kernel
theorem dX0_letterFits_54 : decode cX0_letterFits 54 = .ok (.ireturn, 1) := by decide +kernel
theorem dX0_cutLetter_0 : decode cX0_cutLetter 0 = .ok (.aload_n 0, 1) := by decide +kernel
theorem dX0_cutLetter_1 : decode cX0_cutLetter 1 = .ok (.invokevirtual 68, 3) := by decide +kernel
theorem dX0_cutLetter_4 : decode cX0_cutLetter 4 = .ok (.istore_n 1, 1) := by decide +kernel
theorem dX0_cutLetter_5 : decode cX0_cutLetter 5 = .ok (.aload_n 0, 1) := by decide +kernel
theorem dX0_cutLetter_6 : decode cX0_cutLetter 6 = .ok (.getfield 26, 3) := by decide +kernel
theorem dX0_cutLetter_9 : decode cX0_cutLetter 9 = .ok (.invokevirtual 60, 3) := by decide +kernel
theorem dX0_cutLetter_12 : decode cX0_cutLetter 12 = .ok (.istore_n 2, 1) := by decide +kernel
theorem dX0_cutLetter_13 : decode cX0_cutLetter 13 = .ok (.iconst 0, 1) := by decide +kernel
theorem dX0_cutLetter_14 : decode cX0_cutLetter 14 = .ok (.istore_n 3, 1) := by decide +kernel
theorem dX0_cutLetter_15 : decode cX0_cutLetter 15 = .ok (.iload_n 3, 1) := by decide +kernel
theorem dX0_cutLetter_16 : decode cX0_cutLetter 16 = .ok (.aload_n 0, 1) := by decide +kernel
theorem dX0_cutLetter_17 : decode cX0_cutLetter 17 = .ok (.getfield 26, 3) := by decide +kernel
theorem dX0_cutLetter_20 : decode cX0_cutLetter 20 = .ok (.getfield 81, 3) := by decide +kernel
theorem dX0_cutLetter_23 : decode cX0_cutLetter 23 = .ok (.invokevirtual 84, 3) := by decide +kernel
theorem dX0_cutLetter_26 : decode cX0_cutLetter 26 = .ok (.if_icmp .ge 73, 3) := by decide +kernel
theorem dX0_cutLetter_29 : decode cX0_cutLetter 29 = .ok (.aload_n 0, 1) := by decide +kernel
theorem dX0_cutLetter_30 : decode cX0_cutLetter 30 = .ok (.getfield 26, 3) := by decide +kernel
theorem dX0_cutLetter_33 : decode cX0_cutLetter 33 = .ok (.iload_n 3, 1) := by decide +kernel
theorem dX0_cutLetter_34 : decode cX0_cutLetter 34 = .ok (.iconst 0, 1) := by decide +kernel
theorem dX0_cutLetter_35 : decode cX0_cutLetter 35 = .ok (.iload_n 1, 1) := by decide +kernel
theorem dX0_cutLetter_36 : decode cX0_cutLetter 36 = .ok (.invokevirtual 87, 3) := by decide +kernel
theorem dX0_cutLetter_39 : decode cX0_cutLetter 39 = .ok (.ifCond .ne 6, 3) := by decide +kernel
theorem dX0_cutLetter_42 : decode cX0_cutLetter 42 = .ok (.goto 51, 3) := by decide +kernel
theorem dX0_cutLetter_45 : decode cX0_cutLetter 45 = .ok (.aload_n 0, 1) := by decide +kernel
theorem dX0_cutLetter_46 : decode cX0_cutLetter 46 = .ok (.getfield 26, 3) := by decide +kernel
theorem dX0_cutLetter_49 : decode cX0_cutLetter 49 = .ok (.getfield 81, 3) := by decide +kernel
theorem dX0_cutLetter_52 : decode cX0_cutLetter 52 = .ok (.iload_n 3, 1) := by decide +kernel
theorem dX0_cutLetter_53 : decode cX0_cutLetter 53 = .ok (.bipush 6, 2) := by decide +kernel
theorem dX0_cutLetter_55 : decode cX0_cutLetter 55 = .ok (.invokevirtual 91, 3) := by decide +kernel
theorem dX0_cutLetter_58 : decode cX0_cutLetter 58 = .ok (.ifCond .ne 12, 3) := by decide +kernel
theorem dX0_cutLetter_61 : decode cX0_cutLetter 61 = .ok (.aload_n 0, 1) := by decide +kernel
theorem dX0_cutLetter_62 : decode cX0_cutLetter 62 = .ok (.iload_n 3, 1) := by decide +kernel
theorem dX0_cutLetter_63 : decode cX0_cutLetter 63 = .ok (.iload_n 2, 1) := by decide +kernel
theorem dX0_cutLetter_64 : decode cX0_cutLetter 64 = .ok (.invokevirtual 93, 3) := by decide +kernel
theorem dX0_cutLetter_67 : decode cX0_cutLetter 67 = .ok (.goto 26, 3) := by decide +kernel
theorem dX0_cutLetter_70 : decode cX0_cutLetter 70 = .ok (.aload_n 0, 1) := by decide +kernel
theorem dX0_cutLetter_71 : decode cX0_cutLetter 71 = .ok (.getfield 26, 3) := by decide +kernel
theorem dX0_cutLetter_74 : decode cX0_cutLetter 74 = .ok (.getfield 81, 3) := by decide +kernel
theorem dX0_cutLetter_77 : decode cX0_cutLetter 77 = .ok (.iload_n 3, 1) := by decide +kernel
theorem dX0_cutLetter_78 : decode cX0_cutLetter 78 = .ok (.bipush 12, 2) := by decide +kernel
theorem dX0_cutLetter_80 : decode cX0_cutLetter 80 = .ok (.invokevirtual 91, 3) := by decide +kernel
theorem dX0_cutLetter_83 : decode cX0_cutLetter 83 = .ok (.iload_n 3, 1) := by decide +kernel
theorem dX0_cutLetter_84 : decode cX0_cutLetter 84 = .ok (.if_icmp .ne 9, 3) := by decide +kernel
theorem dX0_cutLetter_87 : decode cX0_cutLetter 87 = .ok (.aload_n 0, 1) := by decide +kernel
theorem dX0_cutLetter_88 : decode cX0_cutLetter 88 = .ok (.iload_n 3, 1) := by decide +kernel
theorem dX0_cutLetter_89 : decode cX0_cutLetter 89 = .ok (.iload_n 2, 1) := by decide +kernel
theorem dX0_cutLetter_90 : decode cX0_cutLetter 90 = .ok (.invokevirtual 96, 3) := by decide +kernel
theorem dX0_cutLetter_93 : decode cX0_cutLetter 93 = .ok (.iinc 3 1, 3) := by decide +kernel
theorem dX0_cutLetter_96 : decode cX0_cutLetter 96 = .ok (.goto (-81), 3) := by decide +kernel
theorem dX0_cutLetter_99 : decode cX0_cutLetter 99 = .ok (.return_, 1) := by decide +kernel
theorem dX0_numberInLetter_0 : decode cX0_numberInLetter 0 = .ok (.iload_n 2, 1) := by decide +kernel
theorem dX0_numberInLetter_1 : decode cX0_numberInLetter 1 = .ok (.bipush 8, 2) := by decide +kernel
theorem dX0_numberInLetter_3 : decode cX0_numberInLetter 3 = .ok (.imul, 1) := by decide +kernel
theorem dX0_numberInLetter_4 : decode cX0_numberInLetter 4 = .ok (.aload_n 0, 1) := by decide +kernel
theorem dX0_numberInLetter_5 : decode cX0_numberInLetter 5 = .ok (.getfield 26, 3) := by decide +kernel
theorem dX0_numberInLetter_8 : decode cX0_numberInLetter 8 = .ok (.getfield 81, 3) := by decide +kernel
theorem dX0_numberInLetter_11 : decode cX0_numberInLetter 11 = .ok (.iload_n 1, 1) := by decide +kernel
theorem dX0_numberInLetter_12 : decode cX0_numberInLetter 12 = .ok (.iconst 2, 1) := by decide +kernel
theorem dX0_numberInLetter_13 : decode cX0_numberInLetter 13 = .ok (.invokevirtual 91, 3) := by decide +kernel
theorem dX0_numberInLetter_16 : decode cX0_numberInLetter 16 = .ok (.iadd, 1) := by decide +kernel
theorem dX0_numberInLetter_17 : decode cX0_numberInLetter 17 = .ok (.istore_n 3, 1) := by decide +kernel
theorem dX0_numberInLetter_18 : decode cX0_numberInLetter 18 = .ok (.aload_n 0, 1) := by decide +kernel
theorem dX0_numberInLetter_19 : decode cX0_numberInLetter 19 = .ok (.getfield 26, 3) := by decide +kernel
theorem dX0_numberInLetter_22 : decode cX0_numberInLetter 22 = .ok (.getfield 81, 3) := by decide +kernel
theorem dX0_numberInLetter_25 : decode cX0_numberInLetter 25 = .ok (.iload_n 1, 1) := by decide +kernel
theorem dX0_numberInLetter_26 : decode cX0_numberInLetter 26 = .ok (.iconst 3, 1) := by decide +kernel
theorem dX0_numberInLetter_27 : decode cX0_numberInLetter 27 = .ok (.invokevirtual 91, 3) := by decide +kernel
theorem dX0_numberInLetter_30 : decode cX0_numberInLetter 30 = .ok (.istore 4, 2) := by decide +kernel
theorem dX0_numberInLetter_32 : decode cX0_numberInLetter 32 = .ok (.iconst 0, 1) := by decide +kernel
theorem dX0_numberInLetter_33 : decode cX0_numberInLetter 33 = .ok (.istore 5, 2) := by decide +kernel
theorem dX0_numberInLetter_35 : decode cX0_numberInLetter 35 = .ok (.iconst 0, 1) := by decide +kernel
theorem dX0_numberInLetter_36 : decode cX0_numberInLetter 36 = .ok (.istore 6, 2) := by decide +kernel
theorem dX0_numberInLetter_38 : decode cX0_numberInLetter 38 = .ok (.iload 6, 2) := by decide +kernel
theorem dX0_numberInLetter_40 : decode cX0_numberInLetter 40 = .ok (.iload 4, 2) := by decide +kernel
theorem dX0_numberInLetter_42 : decode cX0_numberInLetter 42 = .ok (.if_icmp .ge 45, 3) := by decide +kernel
theorem dX0_numberInLetter_45 : decode cX0_numberInLetter 45 = .ok (.aload_n 0, 1) := by decide +kernel
theorem dX0_numberInLetter_46 : decode cX0_numberInLetter 46 = .ok (.getfield 20, 3) := by decide +kernel
theorem dX0_numberInLetter_49 : decode cX0_numberInLetter 49 = .ok (.iload_n 3, 1) := by decide +kernel
theorem dX0_numberInLetter_50 : decode cX0_numberInLetter 50 = .ok (.iload 6, 2) := by decide +kernel
theorem dX0_numberInLetter_52 : decode cX0_numberInLetter 52 = .ok (.iadd, 1) := by decide +kernel
theorem dX0_numberInLetter_53 : decode cX0_numberInLetter 53 = .ok (.bipush 8, 2) := by decide +kernel
theorem dX0_numberInLetter_55 : decode cX0_numberInLetter 55 = .ok (.idiv, 1) := by decide +kernel
theorem dX0_numberInLetter_56 : decode cX0_numberInLetter 56 = .ok (.invokevirtual 64, 3) := by decide +kernel
theorem dX0_numberInLetter_59 : decode cX0_numberInLetter 59 = .ok (.iload_n 3, 1) := by decide +kernel
theorem dX0_numberInLetter_60 : decode cX0_numberInLetter 60 = .ok (.iload 6, 2) := by decide +kernel
theorem dX0_numberInLetter_62 : decode cX0_numberInLetter 62 = .ok (.iadd, 1) := by decide +kernel
theorem dX0_numberInLetter_63 : decode cX0_numberInLetter 63 = .ok (.bipush 8, 2) := by decide +kernel
theorem dX0_numberInLetter_65 : decode cX0_numberInLetter 65 = .ok (.irem, 1) := by decide +kernel
theorem dX0_numberInLetter_66 : decode cX0_numberInLetter 66 = .ok (.ishr, 1) := by decide +kernel
theorem dX0_numberInLetter_67 : decode cX0_numberInLetter 67 = .ok (.iconst 1, 1) := by decide +kernel
theorem dX0_numberInLetter_68 : decode cX0_numberInLetter 68 = .ok (.iand, 1) := by decide +kernel
theorem dX0_numberInLetter_69 : decode cX0_numberInLetter 69 = .ok (.istore 7, 2) := by decide +kernel
theorem dX0_numberInLetter_71 : decode cX0_numberInLetter 71 = .ok (.iload 5, 2) := by decide +kernel
theorem dX0_numberInLetter_73 : decode cX0_numberInLetter 73 = .ok (.iload 7, 2) := by decide +kernel
theorem dX0_numberInLetter_75 : decode cX0_numberInLetter 75 = .ok (.iload 6, 2) := by decide +kernel
theorem dX0_numberInLetter_77 : decode cX0_numberInLetter 77 = .ok (.ishl, 1) := by decide +kernel
theorem dX0_numberInLetter_78 : decode cX0_numberInLetter 78 = .ok (.ior, 1) := by decide +kernel
theorem dX0_numberInLetter_79 : decode cX0_numberInLetter 79 = .ok (.istore 5, 2) := by decide +kernel
theorem dX0_numberInLetter_81 : decode cX0_numberInLetter 81 = .ok (.iinc 6 1, 3) := by decide +kernel
theorem dX0_numberInLetter_84 : decode cX0_numberInLetter 84 = .ok (.goto (-46), 3) := by decide +kernel
theorem dX0_numberInLetter_87 : decode cX0_numberInLetter 87 = .ok (.aload_n 0, 1) := by decide +kernel
theorem dX0_numberInLetter_88 : decode cX0_numberInLetter 88 = .ok (.getfield 26, 3) := by decide +kernel
theorem dX0_numberInLetter_91 : decode cX0_numberInLetter 91 = .ok (.getfield 81, 3) := by decide +kernel
theorem dX0_numberInLetter_94 : decode cX0_numberInLetter 94 = .ok (.iload_n 1, 1) := by decide +kernel
theorem dX0_numberInLetter_95 : decode cX0_numberInLetter 95 = .ok (.iconst 4, 1) := by decide +kernel
theorem dX0_numberInLetter_96 : decode cX0_numberInLetter 96 = .ok (.invokevirtual 91, 3) := by decide +kernel
theorem dX0_numberInLetter_99 : decode cX0_numberInLetter 99 = .ok (.ifCond .ge 13, 3) := by decide +kernel
theorem dX0_numberInLetter_102 : decode cX0_numberInLetter 102 = .ok (.iload 5, 2) := by decide +kernel
theorem dX0_numberInLetter_104 : decode cX0_numberInLetter 104 = .ok (.iload 4, 2) := by decide +kernel
theorem dX0_numberInLetter_106 : decode cX0_numberInLetter 106 = .ok (.invokestatic 99, 3) := by decide +kernel
theorem dX0_numberInLetter_109 : decode cX0_numberInLetter 109 = .ok (.goto 5, 3) := by decide +kernel
theorem dX0_numberInLetter_112 : decode cX0_numberInLetter 112 = .ok (.iload 5, 2) := by decide +kernel
theorem dX0_numberInLetter_114 : decode cX0_numberInLetter 114 = .ok (.ireturn, 1) := by decide +kernel
theorem dX0_cutValue_0 : decode cX0_cutValue 0 = .ok (.aload_n 0, 1) := by decide +kernel
theorem dX0_cutValue_1 : decode cX0_cutValue 1 = .ok (.iload_n 1, 1) := by decide +kernel
theorem dX0_cutValue_2 : decode cX0_cutValue 2 = .ok (.iload_n 2, 1) := by decide +kernel
theorem dX0_cutValue_3 : decode cX0_cutValue 3 = .ok (.invokevirtual 102, 3) := by decide +kernel
theorem dX0_cutValue_6 : decode cX0_cutValue 6 = .ok (.istore_n 3, 1) := by decide +kernel
theorem dX0_cutValue_7 : decode cX0_cutValue 7 = .ok (.aload_n 0, 1) := by decide +kernel
theorem dX0_cutValue_8 : decode cX0_cutValue 8 = .ok (.getfield 26, 3) := by decide +kernel
theorem dX0_cutValue_11 : decode cX0_cutValue 11 = .ok (.iload_n 1, 1) := by decide +kernel
theorem dX0_cutValue_12 : decode cX0_cutValue 12 = .ok (.iload_n 3, 1) := by decide +kernel
theorem dX0_cutValue_13 : decode cX0_cutValue 13 = .ok (.invokevirtual 105, 3) := by decide +kernel
theorem dX0_cutValue_16 : decode cX0_cutValue 16 = .ok (.ifCond .ne 4, 3) := by decide +kernel
theorem dX0_cutValue_19 : decode cX0_cutValue 19 = .ok (.return_, 1) := by decide +kernel
theorem dX0_cutValue_20 : decode cX0_cutValue 20 = .ok (.aload_n 0, 1) := by decide +kernel
theorem dX0_cutValue_21 : decode cX0_cutValue 21 = .ok (.getfield 26, 3) := by decide +kernel
theorem dX0_cutValue_24 : decode cX0_cutValue 24 = .ok (.getfield 81, 3) := by decide +kernel
theorem dX0_cutValue_27 : decode cX0_cutValue 27 = .ok (.iload_n 1, 1) := by decide +kernel
theorem dX0_cutValue_28 : decode cX0_cutValue 28 = .ok (.bipush 7, 2) := by decide +kernel
theorem dX0_cutValue_30 : decode cX0_cutValue 30 = .ok (.invokevirtual 91, 3) := by decide +kernel
theorem dX0_cutValue_33 : decode cX0_cutValue 33 = .ok (.iconst 1, 1) := by decide +kernel
theorem dX0_cutValue_34 : decode cX0_cutValue 34 = .ok (.if_icmp .ne 7, 3) := by decide +kernel
theorem dX0_cutValue_37 : decode cX0_cutValue 37 = .ok (.iconst 1, 1) := by decide +kernel
theorem dX0_cutValue_38 : decode cX0_cutValue 38 = .ok (.goto 4, 3) := by decide +kernel
theorem dX0_cutValue_41 : decode cX0_cutValue 41 = .ok (.iconst 0, 1) := by decide +kernel
theorem dX0_cutValue_42 : decode cX0_cutValue 42 = .ok (.istore 4, 2) := by decide +kernel
theorem dX0_cutValue_44 : decode cX0_cutValue 44 = .ok (.iload 4, 2) := by decide +kernel
theorem dX0_cutValue_46 : decode cX0_cutValue 46 = .ok (.ifCond .eq 7, 3) := by decide +kernel
theorem dX0_cutValue_49 : decode cX0_cutValue 49 = .ok (.iconst 0, 1) := by decide +kernel
theorem dX0_cutValue_50 : decode cX0_cutValue 50 = .ok (.goto 16, 3) := by decide +kernel
theorem dX0_cutValue_53 : decode cX0_cutValue 53 = .ok (.aload_n 0, 1) := by decide +kernel
theorem dX0_cutValue_54 : decode cX0_cutValue 54 = .ok (.getfield 26, 3) := by decide +kernel
theorem dX0_cutValue_57 : decode cX0_cutValue 57 = .ok (.getfield 81, 3) := by decide +kernel
theorem dX0_cutValue_60 : decode cX0_cutValue 60 = .ok (.iload_n 1, 1) := by decide +kernel
theorem dX0_cutValue_61 : decode cX0_cutValue 61 = .ok (.bipush 14, 2) := by decide +kernel
theorem dX0_cutValue_63 : decode cX0_cutValue 63 = .ok (.invokevirtual 91, 3) := by decide +kernel
theorem dX0_cutValue_66 : decode cX0_cutValue 66 = .ok (.istore 5, 2) := by decide +kernel
theorem dX0_cutValue_68 : decode cX0_cutValue 68 = .ok (.iload_n 3, 1) := by decide +kernel
theorem dX0_cutValue_69 : decode cX0_cutValue 69 = .ok (.iload 5, 2) := by decide +kernel
theorem dX0_cutValue_71 : decode cX0_cutValue 71 = .ok (.if_icmp .eq 22, 3) := by decide +kernel
theorem dX0_cutValue_74 : decode cX0_cutValue 74 = .ok (.aload_n 0, 1) := by decide +kernel
theorem dX0_cutValue_75 : decode cX0_cutValue 75 = .ok (.iload_n 1, 1) := by decide +kernel
theorem dX0_cutValue_76 : decode cX0_cutValue 76 = .ok (.aload_n 0, 1) := by decide +kernel
theorem dX0_cutValue_77 : decode cX0_cutValue 77 = .ok (.getfield 26, 3) := by decide +kernel
theorem dX0_cutValue_80 : decode cX0_cutValue 80 = .ok (.getfield 81, 3) := by decide +kernel
theorem dX0_cutValue_83 : decode cX0_cutValue 83 = .ok (.iload_n 1, 1) := by decide +kernel
theorem dX0_cutValue_84 : decode cX0_cutValue 84 = .ok (.bipush 10, 2) := by decide +kernel
theorem dX0_cutValue_86 : decode cX0_cutValue 86 = .ok (.invokevirtual 91, 3) := by decide +kernel
theorem dX0_cutValue_89 : decode cX0_cutValue 89 = .ok (.iload_n 3, 1) := by decide +kernel
theorem dX0_cutValue_90 : decode cX0_cutValue 90 = .ok (.invokevirtual 109, 3) := by decide +kernel
theorem dX0_cutValue_93 : decode cX0_cutValue 93 = .ok (.aload_n 0, 1) := by decide +kernel
theorem dX0_cutValue_94 : decode cX0_cutValue 94 = .ok (.getfield 26, 3) := by decide +kernel
theorem dX0_cutValue_97 : decode cX0_cutValue 97 = .ok (.getfield 81, 3) := by decide +kernel
theorem dX0_cutValue_100 : decode cX0_cutValue 100 = .ok (.iload_n 1, 1) := by decide +kernel
theorem dX0_cutValue_101 : decode cX0_cutValue 101 = .ok (.bipush 14, 2) := by decide +kernel
theorem dX0_cutValue_103 : decode cX0_cutValue 103 = .ok (.iload_n 3, 1) := by decide +kernel
theorem dX0_cutValue_104 : decode cX0_cutValue 104 = .ok (.invokevirtual 113, 3) := by decide +kernel
theorem dX0_cutValue_107 : decode cX0_cutValue 107 = .ok (.return_, 1) := by decide +kernel
theorem dX0_cutSlots_0 : decode cX0_cutSlots 0 = .ok (.aload_n 0, 1) := by decide +kernel
theorem dX0_cutSlots_1 : decode cX0_cutSlots 1 = .ok (.getfield 26, 3) := by decide +kernel
theorem dX0_cutSlots_4 : decode cX0_cutSlots 4 = .ok (.getfield 81, 3) := by decide +kernel
theorem dX0_cutSlots_7 : decode cX0_cutSlots 7 = .ok (.iload_n 1, 1) := by decide +kernel
theorem dX0_cutSlots_8 : decode cX0_cutSlots 8 = .ok (.bipush 16, 2) := by decide +kernel
theorem dX0_cutSlots_10 : decode cX0_cutSlots 10 = .ok (.invokevirtual 91, 3) := by decide +kernel
theorem dX0_cutSlots_13 : decode cX0_cutSlots 13 = .ok (.istore_n 3, 1) := by decide +kernel
theorem dX0_cutSlots_14 : decode cX0_cutSlots 14 = .ok (.aload_n 0, 1) := by decide +kernel
theorem dX0_cutSlots_15 : decode cX0_cutSlots 15 = .ok (.iload_n 1, 1) := by decide +kernel
theorem dX0_cutSlots_16 : decode cX0_cutSlots 16 = .ok (.iload_n 2, 1) := by decide +kernel
theorem dX0_cutSlots_17 : decode cX0_cutSlots 17 = .ok (.invokevirtual 116, 3) := by decide +kernel
theorem dX0_cutSlots_20 : decode cX0_cutSlots 20 = .ok (.istore 4, 2) := by decide +kernel
theorem dX0_cutSlots_22 : decode cX0_cutSlots 22 = .ok (.aload_n 0, 1) := by decide +kernel
theorem dX0_cutSlots_23 : decode cX0_cutSlots 23 = .ok (.iload_n 1, 1) := by decide +kernel
theorem dX0_cutSlots_24 : decode cX0_cutSlots 24 = .ok (.iload_n 3, 1) := by decide +kernel
theorem dX0_cutSlots_25 : decode cX0_cutSlots 25 = .ok (.iload 4, 2) := by decide +kernel
theorem dX0_cutSlots_27 : decode cX0_cutSlots 27 = .ok (.iconst (-1), 1) := by decide +kernel
theorem dX0_cutSlots_28 : decode cX0_cutSlots 28 = .ok (.ixor, 1) := by decide +kernel
theorem dX0_cutSlots_29 : decode cX0_cutSlots 29 = .ok (.iand, 1) := by decide +kernel
theorem dX0_cutSlots_30 : decode cX0_cutSlots 30 = .ok (.iconst 0, 1) := by decide +kernel
theorem dX0_cutSlots_31 : decode cX0_cutSlots 31 = .ok (.invokevirtual 119, 3) := by decide +kernel
theorem dX0_cutSlots_34 : decode cX0_cutSlots 34 = .ok (.aload_n 0, 1) := by decide +kernel
theorem dX0_cutSlots_35 : decode cX0_cutSlots 35 = .ok (.iload_n 1, 1) := by decide +kernel
theorem dX0_cutSlots_36 : decode cX0_cutSlots 36 = .ok (.iload 4, 2) := by decide +kernel
theorem dX0_cutSlots_38 : decode cX0_cutSlots 38 = .ok (.iload_n 3, 1) := by decide +kernel
theorem dX0_cutSlots_39 : decode cX0_cutSlots 39 = .ok (.iconst (-1), 1) := by decide +kernel
theorem dX0_cutSlots_40 : decode cX0_cutSlots 40 = .ok (.ixor, 1) := by decide +kernel
theorem dX0_cutSlots_41 : decode cX0_cutSlots 41 = .ok (.iand, 1) := by decide +kernel
theorem dX0_cutSlots_42 : decode cX0_cutSlots 42 = .ok (.iconst 1, 1) := by decide +kernel
theorem dX0_cutSlots_43 : decode cX0_cutSlots 43 = .ok (.invokevirtual 119, 3) := by decide +kernel
theorem dX0_cutSlots_46 : decode cX0_cutSlots 46 = .ok (.aload_n 0, 1) := by decide +kernel
theorem dX0_cutSlots_47 : decode cX0_cutSlots 47 = .ok (.getfield 26, 3) := by decide +kernel
theorem dX0_cutSlots_50 : decode cX0_cutSlots 50 = .ok (.getfield 81, 3) := by decide +kernel
theorem dX0_cutSlots_53 : decode cX0_cutSlots 53 = .ok (.iload_n 1, 1) := by decide +kernel
theorem dX0_cutSlots_54 : decode cX0_cutSlots 54 = .ok (.bipush 16, 2) := by decide +kernel
theorem dX0_cutSlots_56 : decode cX0_cutSlots 56 = .ok (.iload 4, 2) := by decide +kernel
theorem dX0_cutSlots_58 : decode cX0_cutSlots 58 = .ok (.invokevirtual 113, 3) := by decide +kernel
theorem dX0_cutSlots_61 : decode cX0_cutSlots 61 = .ok (.return_, 1) := by decide +kernel
theorem dX0_pressedInLetter_0 : decode cX0_pressedInLetter 0 = .ok (.iconst 0, 1) := by decide +kernel
theorem dX0_pressedInLetter_1 : decode cX0_pressedInLetter 1 = .ok (.istore_n 3, 1) := by decide +kernel
theorem dX0_pressedInLetter_2 : decode cX0_pressedInLetter 2 = .ok (.iload_n 1, 1) := by decide +kernel
theorem dX0_pressedInLetter_3 : decode cX0_pressedInLetter 3 = .ok (.istore 4, 2) := by decide +kernel
theorem dX0_pressedInLetter_5 : decode cX0_pressedInLetter 5 = .ok (.iload 4, 2) := by decide +kernel
theorem dX0_pressedInLetter_7 : decode cX0_pressedInLetter 7 = .ok (.aload_n 0, 1) := by decide +kernel
theorem dX0_pressedInLetter_8 : decode cX0_pressedInLetter 8 = .ok (.getfield 26, 3) := by decide +kernel
theorem dX0_pressedInLetter_11 : decode cX0_pressedInLetter 11 = .ok (.getfield 81, 3) := by decide +kernel
theorem dX0_pressedInLetter_14 : decode cX0_pressedInLetter 14 = .ok (.invokevirtual 84, 3) := by decide +kernel
theorem dX0_pressedInLetter_17 : decode cX0_pressedInLetter 17 = .ok (.if_icmp .ge 111, 3) := by decide +kernel
theorem dX0_pressedInLetter_20 : decode cX0_pressedInLetter 20 = .ok (.aload_n 0, 1) := by decide +kernel
theorem dX0_pressedInLetter_21 : decode cX0_pressedInLetter 21 = .ok (.getfield 26, 3) := by decide +kernel
theorem dX0_pressedInLetter_24 : decode cX0_pressedInLetter 24 = .ok (.getfield 81, 3) := by decide +kernel
theorem dX0_pressedInLetter_27 : decode cX0_pressedInLetter 27 = .ok (.iload 4, 2) := by decide +kernel
theorem dX0_pressedInLetter_29 : decode cX0_pressedInLetter 29 = .ok (.bipush 12, 2) := by decide +kernel
theorem dX0_pressedInLetter_31 : decode cX0_pressedInLetter 31 = .ok (.invokevirtual 91, 3) := by decide +kernel
theorem dX0_pressedInLetter_34 : decode cX0_pressedInLetter 34 = .ok (.iload_n 1, 1) := by decide +kernel
theorem dX0_pressedInLetter_35 : decode cX0_pressedInLetter 35 = .ok (.if_icmp .eq 6, 3) := by decide +kernel
theorem dX0_pressedInLetter_38 : decode cX0_pressedInLetter 38 = .ok (.goto 90, 3) := by decide +kernel
theorem dX0_pressedInLetter_41 : decode cX0_pressedInLetter 41 = .ok (.aload_n 0, 1) := by decide +kernel
theorem dX0_pressedInLetter_42 : decode cX0_pressedInLetter 42 = .ok (.iload 4, 2) := by decide +kernel
theorem dX0_pressedInLetter_44 : decode cX0_pressedInLetter 44 = .ok (.iload_n 2, 1) := by decide +kernel
theorem dX0_pressedInLetter_45 : decode cX0_pressedInLetter 45 = .ok (.invokevirtual 102, 3) := by decide +kernel
theorem dX0_pressedInLetter_48 : decode cX0_pressedInLetter 48 = .ok (.istore 5, 2) := by decide +kernel
theorem dX0_pressedInLetter_50 : decode cX0_pressedInLetter 50 = .ok (.iload 5, 2) := by decide +kernel
theorem dX0_pressedInLetter_52 : decode cX0_pressedInLetter 52 = .ok (.i2l, 1) := by decide +kernel
theorem dX0_pressedInLetter_53 : decode cX0_pressedInLetter 53 = .ok (.aload_n 0, 1) := by decide +kernel
theorem dX0_pressedInLetter_54 : decode cX0_pressedInLetter 54 = .ok (.getfield 26, 3) := by decide +kernel
theorem dX0_pressedInLetter_57 : decode cX0_pressedInLetter 57 = .ok (.getfield 81, 3) := by decide +kernel
theorem dX0_pressedInLetter_60 : decode cX0_pressedInLetter 60 = .ok (.iload 4, 2) := by decide +kernel
theorem dX0_pressedInLetter_62 : decode cX0_pressedInLetter 62 = .ok (.iconst 4, 1) := by decide +kernel
theorem dX0_pressedInLetter_63 : decode cX0_pressedInLetter 63 = .ok (.invokevirtual 91, 3) := by decide +kernel
theorem dX0_pressedInLetter_66 : decode cX0_pressedInLetter 66 = .ok (.i2l, 1) := by decide +kernel
theorem dX0_pressedInLetter_67 : decode cX0_pressedInLetter 67 = .ok (.lsub, 1) := by decide +kernel
theorem dX0_pressedInLetter_68 : decode cX0_pressedInLetter 68 = .ok (.lstore 6, 2) := by decide +kernel
theorem dX0_pressedInLetter_70 : decode cX0_pressedInLetter 70 = .ok (.aload_n 0, 1) := by decide +kernel
theorem dX0_pressedInLetter_71 : decode cX0_pressedInLetter 71 = .ok (.getfield 26, 3) := by decide +kernel
theorem dX0_pressedInLetter_74 : decode cX0_pressedInLetter 74 = .ok (.iload 4, 2) := by decide +kernel
theorem dX0_pressedInLetter_76 : decode cX0_pressedInLetter 76 = .ok (.iload 5, 2) := by decide +kernel
theorem dX0_pressedInLetter_78 : decode cX0_pressedInLetter 78 = .ok (.invokevirtual 105, 3) := by decide +kernel
theorem dX0_pressedInLetter_81 : decode cX0_pressedInLetter 81 = .ok (.ifCond .eq 41, 3) := by decide +kernel
theorem dX0_pressedInLetter_84 : decode cX0_pressedInLetter 84 = .ok (.lload 6, 2) := by decide +kernel
theorem dX0_pressedInLetter_86 : decode cX0_pressedInLetter 86 = .ok (.aload_n 0, 1) := by decide +kernel
theorem dX0_pressedInLetter_87 : decode cX0_pressedInLetter 87 = .ok (.getfield 26, 3) := by decide +kernel
theorem dX0_pressedInLetter_90 : decode cX0_pressedInLetter 90 = .ok (.getfield 81, 3) := by decide +kernel
theorem dX0_pressedInLetter_93 : decode cX0_pressedInLetter 93 = .ok (.iload 4, 2) := by decide +kernel
theorem dX0_pressedInLetter_95 : decode cX0_pressedInLetter 95 = .ok (.bipush 9, 2) := by decide +kernel
theorem dX0_pressedInLetter_97 : decode cX0_pressedInLetter 97 = .ok (.invokevirtual 91, 3) := by decide +kernel
theorem dX0_pressedInLetter_100 : decode cX0_pressedInLetter 100 = .ok (.i2l, 1) := by decide +kernel
theorem dX0_pressedInLetter_101 : decode cX0_pressedInLetter 101 = .ok (.lcmp, 1) := by decide +kernel
theorem dX0_pressedInLetter_102 : decode cX0_pressedInLetter 102 = .ok (.ifCond .ge 20, 3) := by decide +kernel
theorem dX0_pressedInLetter_105 : decode cX0_pressedInLetter 105 = .ok (.iload_n 3, 1) := by decide +kernel
theorem dX0_pressedInLetter_106 : decode cX0_pressedInLetter 106 = .ok (.iconst 1, 1) := by decide +kernel
theorem dX0_pressedInLetter_107 : decode cX0_pressedInLetter 107 = .ok (.aload_n 0, 1) := by decide +kernel
theorem dX0_pressedInLetter_108 : decode cX0_pressedInLetter 108 = .ok (.getfield 26, 3) := by decide +kernel
theorem dX0_pressedInLetter_111 : decode cX0_pressedInLetter 111 = .ok (.iload 4, 2) := by decide +kernel
theorem dX0_pressedInLetter_113 : decode cX0_pressedInLetter 113 = .ok (.lload 6, 2) := by decide +kernel
theorem dX0_pressedInLetter_115 : decode cX0_pressedInLetter 115 = .ok (.l2i, 1) := by decide +kernel
theorem dX0_pressedInLetter_116 : decode cX0_pressedInLetter 116 = .ok (.invokevirtual 122, 3) := by decide +kernel
theorem dX0_pressedInLetter_119 : decode cX0_pressedInLetter 119 = .ok (.ishl, 1) := by decide +kernel
theorem dX0_pressedInLetter_120 : decode cX0_pressedInLetter 120 = .ok (.ior, 1) := by decide +kernel
theorem dX0_pressedInLetter_121 : decode cX0_pressedInLetter 121 = .ok (.istore_n 3, 1) := by decide +kernel
theorem dX0_pressedInLetter_122 : decode cX0_pressedInLetter 122 = .ok (.iinc 4 1, 3) := by decide +kernel
theorem dX0_pressedInLetter_125 : decode cX0_pressedInLetter 125 = .ok (.goto (-120), 3) := by decide +kernel
theorem dX0_pressedInLetter_128 : decode cX0_pressedInLetter 128 = .ok (.iload_n 3, 1) := by decide +kernel
theorem dX0_pressedInLetter_129 : decode cX0_pressedInLetter 129 = .ok (.ireturn, 1) := by decide +kernel
theorem dX0_addUseEvents_0 : decode cX0_addUseEvents 0 = .ok (.iload_n 2, 1) := by decide +kernel
theorem dX0_addUseEvents_1 : decode cX0_addUseEvents 1 = .ok (.istore 4, 2) := by decide +kernel
theorem dX0_addUseEvents_3 : decode cX0_addUseEvents 3 = .ok (.iconst 0, 1) := by decide +kernel
theorem dX0_addUseEvents_4 : decode cX0_addUseEvents 4 = .ok (.istore 5, 2) := by decide +kernel
theorem dX0_addUseEvents_6 : decode cX0_addUseEvents 6 = .ok (.iload 5, 2) := by decide +kernel
theorem dX0_addUseEvents_8 : decode cX0_addUseEvents 8 = .ok (.bipush 32, 2) := by decide +kernel
theorem dX0_addUseEvents_10 : decode cX0_addUseEvents 10 = .ok (.if_icmp .ge 53, 3) := by decide +kernel
theorem dX0_addUseEvents_13 : decode cX0_addUseEvents 13 = .ok (.iload 4, 2) := by decide +kernel
theorem dX0_addUseEvents_15 : decode cX0_addUseEvents 15 = .ok (.ifCond .eq 48, 3) := by decide +kernel
theorem dX0_addUseEvents_18 : decode cX0_addUseEvents 18 = .ok (.aload_n 0, 1) := by decide +kernel
theorem dX0_addUseEvents_19 : decode cX0_addUseEvents 19 = .ok (.getfield 26, 3) := by decide +kernel
theorem dX0_addUseEvents_22 : decode cX0_addUseEvents 22 = .ok (.iload_n 1, 1) := by decide +kernel
theorem dX0_addUseEvents_23 : decode cX0_addUseEvents 23 = .ok (.iload 4, 2) := by decide +kernel
theorem dX0_addUseEvents_25 : decode cX0_addUseEvents 25 = .ok (.invokevirtual 125, 3) := by decide +kernel
theorem dX0_addUseEvents_28 : decode cX0_addUseEvents 28 = .ok (.istore 6, 2) := by decide +kernel
theorem dX0_addUseEvents_30 : decode cX0_addUseEvents 30 = .ok (.aload_n 0, 1) := by decide +kernel
theorem dX0_addUseEvents_31 : decode cX0_addUseEvents 31 = .ok (.iload_n 1, 1) := by decide +kernel
theorem dX0_addUseEvents_32 : decode cX0_addUseEvents 32 = .ok (.aload_n 0, 1) := by decide +kernel
theorem dX0_addUseEvents_33 : decode cX0_addUseEvents 33 = .ok (.getfield 26, 3) := by decide +kernel
theorem dX0_addUseEvents_36 : decode cX0_addUseEvents 36 = .ok (.iload_n 1, 1) := by decide +kernel
theorem dX0_addUseEvents_37 : decode cX0_addUseEvents 37 = .ok (.iload 6, 2) := by decide +kernel
theorem dX0_addUseEvents_39 : decode cX0_addUseEvents 39 = .ok (.invokevirtual 128, 3) := by decide +kernel
theorem dX0_addUseEvents_42 : decode cX0_addUseEvents 42 = .ok (.iload_n 3, 1) := by decide +kernel
theorem dX0_addUseEvents_43 : decode cX0_addUseEvents 43 = .ok (.invokevirtual 109, 3) := by decide +kernel
theorem dX0_addUseEvents_46 : decode cX0_addUseEvents 46 = .ok (.iload 4, 2) := by decide +kernel
theorem dX0_addUseEvents_48 : decode cX0_addUseEvents 48 = .ok (.iconst 1, 1) := by decide +kernel
theorem dX0_addUseEvents_49 : decode cX0_addUseEvents 49 = .ok (.iload 6, 2) := by decide +kernel
theorem dX0_addUseEvents_51 : decode cX0_addUseEvents 51 = .ok (.ishl, 1) := by decide +kernel
theorem dX0_addUseEvents_52 : decode cX0_addUseEvents 52 = .ok (.iconst (-1), 1) := by decide +kernel
theorem dX0_addUseEvents_53 : decode cX0_addUseEvents 53 = .ok (.ixor, 1) := by decide +kernel
theorem dX0_addUseEvents_54 : decode cX0_addUseEvents 54 = .ok (.iand, 1) := by decide +kernel
theorem dX0_addUseEvents_55 : decode cX0_addUseEvents 55 = .ok (.istore 4, 2) := by decide +kernel
theorem dX0_addUseEvents_57 : decode cX0_addUseEvents 57 = .ok (.iinc 5 1, 3) := by decide +kernel
theorem dX0_addUseEvents_60 : decode cX0_addUseEvents 60 = .ok (.goto (-54), 3) := by decide +kernel
theorem dX0_addUseEvents_63 : decode cX0_addUseEvents 63 = .ok (.return_, 1) := by decide +kernel
theorem dX0_addEvent_0 : decode cX0_addEvent 0 = .ok (.aload_n 0, 1) := by decide +kernel
theorem dX0_addEvent_1 : decode cX0_addEvent 1 = .ok (.getfield 35, 3) := by decide +kernel
theorem dX0_addEvent_4 : decode cX0_addEvent 4 = .ok (.invokevirtual 131, 3) := by decide +kernel
theorem dX0_addEvent_7 : decode cX0_addEvent 7 = .ok (.istore 4, 2) := by decide +kernel
theorem dX0_addEvent_9 : decode cX0_addEvent 9 = .ok (.aload_n 0, 1) := by decide +kernel
theorem dX0_addEvent_10 : decode cX0_addEvent 10 = .ok (.getfield 35, 3) := by decide +kernel
theorem dX0_addEvent_13 : decode cX0_addEvent 13 = .ok (.iload 4, 2) := by decide +kernel
theorem dX0_addEvent_15 : decode cX0_addEvent 15 = .ok (.iconst 0, 1) := by decide +kernel
theorem dX0_addEvent_16 : decode cX0_addEvent 16 = .ok (.iload_n 1, 1) := by decide +kernel
theorem dX0_addEvent_17 : decode cX0_addEvent 17 = .ok (.invokevirtual 113, 3) := by decide +kernel
theorem dX0_addEvent_20 : decode cX0_addEvent 20 = .ok (.aload_n 0, 1) := by decide +kernel
theorem dX0_addEvent_21 : decode cX0_addEvent 21 = .ok (.getfield 35, 3) := by decide +kernel
theorem dX0_addEvent_24 : decode cX0_addEvent 24 = .ok (.iload 4, 2) := by decide +kernel
theorem dX0_addEvent_26 : decode cX0_addEvent 26 = .ok (.iconst 1, 1) := by decide +kernel
theorem dX0_addEvent_27 : decode cX0_addEvent 27 = .ok (.iload_n 2, 1) := by decide +kernel
theorem dX0_addEvent_28 : decode cX0_addEvent 28 = .ok (.invokevirtual 113, 3) := by decide +kernel
theorem dX0_addEvent_31 : decode cX0_addEvent 31 = .ok (.aload_n 0, 1) := by decide +kernel
theorem dX0_addEvent_32 : decode cX0_addEvent 32 = .ok (.getfield 35, 3) := by decide +kernel
theorem dX0_addEvent_35 : decode cX0_addEvent 35 = .ok (.iload 4, 2) := by decide +kernel
theorem dX0_addEvent_37 : decode cX0_addEvent 37 = .ok (.iconst 2, 1) := by decide +kernel
theorem dX0_addEvent_38 : decode cX0_addEvent 38 = .ok (.iload_n 3, 1) := by decide +kernel
theorem dX0_addEvent_39 : decode cX0_addEvent 39 = .ok (.invokevirtual 113, 3) := by decide +kernel
theorem dX0_addEvent_42 : decode cX0_addEvent 42 = .ok (.return_, 1) := by decide +kernel
