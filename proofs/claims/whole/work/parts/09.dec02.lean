theorem dX1_decode_0 : decode cX1_decode 0 = .ok (.aload_n 1, 1) := by decide +kernel
theorem dX1_decode_1 : decode cX1_decode 1 = .ok (.iload_n 2, 1) := by decide +kernel
theorem dX1_decode_2 : decode cX1_decode 2 = .ok (.invokevirtual 7, 3) := by decide +kernel
theorem dX1_decode_5 : decode cX1_decode 5 = .ok (.istore_n 3, 1) := by decide +kernel
theorem dX1_decode_6 : decode cX1_decode 6 = .ok (.aload_n 0, 1) := by decide +kernel
theorem dX1_decode_7 : decode cX1_decode 7 = .ok (.iload_n 2, 1) := by decide +kernel
theorem dX1_decode_8 : decode cX1_decode 8 = .ok (.putfield 13, 3) := by decide +kernel
theorem dX1_decode_11 : decode cX1_decode 11 = .ok (.aload_n 0, 1) := by decide +kernel
theorem dX1_decode_12 : decode cX1_decode 12 = .ok (.iload_n 3, 1) := by decide +kernel
theorem dX1_decode_13 : decode cX1_decode 13 = .ok (.iconst 3, 1) := by decide +kernel
theorem dX1_decode_14 : decode cX1_decode 14 = .ok (.iand, 1) := by decide +kernel
theorem dX1_decode_15 : decode cX1_decode 15 = .ok (.iconst 3, 1) := by decide +kernel
theorem dX1_decode_16 : decode cX1_decode 16 = .ok (.if_icmp .ne 7, 3) := by decide +kernel
theorem dX1_decode_19 : decode cX1_decode 19 = .ok (.iconst 4, 1) := by decide +kernel
theorem dX1_decode_20 : decode cX1_decode 20 = .ok (.goto 6, 3) := by decide +kernel
theorem dX1_decode_23 : decode cX1_decode 23 = .ok (.iload_n 3, 1) := by decide +kernel
theorem dX1_decode_24 : decode cX1_decode 24 = .ok (.iconst 3, 1) := by decide +kernel
theorem dX1_decode_25 : decode cX1_decode 25 = .ok (.iand, 1) := by decide +kernel
theorem dX1_decode_26 : decode cX1_decode 26 = .ok (.putfield 19, 3) := by decide +kernel
theorem dX1_decode_29 : decode cX1_decode 29 = .ok (.aload_n 0, 1) := by decide +kernel
theorem dX1_decode_30 : decode cX1_decode 30 = .ok (.iload_n 3, 1) := by decide +kernel
theorem dX1_decode_31 : decode cX1_decode 31 = .ok (.iconst 2, 1) := by decide +kernel
theorem dX1_decode_32 : decode cX1_decode 32 = .ok (.ishr, 1) := by decide +kernel
theorem dX1_decode_33 : decode cX1_decode 33 = .ok (.iconst 3, 1) := by decide +kernel
theorem dX1_decode_34 : decode cX1_decode 34 = .ok (.iand, 1) := by decide +kernel
theorem dX1_decode_35 : decode cX1_decode 35 = .ok (.putfield 22, 3) := by decide +kernel
theorem dX1_decode_38 : decode cX1_decode 38 = .ok (.aload_n 0, 1) := by decide +kernel
theorem dX1_decode_39 : decode cX1_decode 39 = .ok (.iload_n 3, 1) := by decide +kernel
theorem dX1_decode_40 : decode cX1_decode 40 = .ok (.iconst 4, 1) := by decide +kernel
theorem dX1_decode_41 : decode cX1_decode 41 = .ok (.ishr, 1) := by decide +kernel
theorem dX1_decode_42 : decode cX1_decode 42 = .ok (.putfield 25, 3) := by decide +kernel
theorem dX1_decode_45 : decode cX1_decode 45 = .ok (.iconst 0, 1) := by decide +kernel
theorem dX1_decode_46 : decode cX1_decode 46 = .ok (.istore 4, 2) := by decide +kernel
theorem dX1_decode_48 : decode cX1_decode 48 = .ok (.iconst 0, 1) := by decide +kernel
theorem dX1_decode_49 : decode cX1_decode 49 = .ok (.istore 5, 2) := by decide +kernel
theorem dX1_decode_51 : decode cX1_decode 51 = .ok (.iload 5, 2) := by decide +kernel
theorem dX1_decode_53 : decode cX1_decode 53 = .ok (.aload_n 0, 1) := by decide +kernel
theorem dX1_decode_54 : decode cX1_decode 54 = .ok (.getfield 19, 3) := by decide +kernel
theorem dX1_decode_57 : decode cX1_decode 57 = .ok (.if_icmp .ge 30, 3) := by decide +kernel
theorem dX1_decode_60 : decode cX1_decode 60 = .ok (.iload 4, 2) := by decide +kernel
theorem dX1_decode_62 : decode cX1_decode 62 = .ok (.aload_n 1, 1) := by decide +kernel
theorem dX1_decode_63 : decode cX1_decode 63 = .ok (.iload_n 2, 1) := by decide +kernel
theorem dX1_decode_64 : decode cX1_decode 64 = .ok (.iconst 1, 1) := by decide +kernel
theorem dX1_decode_65 : decode cX1_decode 65 = .ok (.iadd, 1) := by decide +kernel
theorem dX1_decode_66 : decode cX1_decode 66 = .ok (.iload 5, 2) := by decide +kernel
theorem dX1_decode_68 : decode cX1_decode 68 = .ok (.iadd, 1) := by decide +kernel
theorem dX1_decode_69 : decode cX1_decode 69 = .ok (.invokevirtual 7, 3) := by decide +kernel
theorem dX1_decode_72 : decode cX1_decode 72 = .ok (.bipush 8, 2) := by decide +kernel
theorem dX1_decode_74 : decode cX1_decode 74 = .ok (.iload 5, 2) := by decide +kernel
theorem dX1_decode_76 : decode cX1_decode 76 = .ok (.imul, 1) := by decide +kernel
theorem dX1_decode_77 : decode cX1_decode 77 = .ok (.ishl, 1) := by decide +kernel
theorem dX1_decode_78 : decode cX1_decode 78 = .ok (.ior, 1) := by decide +kernel
theorem dX1_decode_79 : decode cX1_decode 79 = .ok (.istore 4, 2) := by decide +kernel
theorem dX1_decode_81 : decode cX1_decode 81 = .ok (.iinc 5 1, 3) := by decide +kernel
theorem dX1_decode_84 : decode cX1_decode 84 = .ok (.goto (-33), 3) := by decide +kernel
theorem dX1_decode_87 : decode cX1_decode 87 = .ok (.aload_n 0, 1) := by decide +kernel
theorem dX1_decode_88 : decode cX1_decode 88 = .ok (.iload 4, 2) := by decide +kernel
theorem dX1_decode_90 : decode cX1_decode 90 = .ok (.ldc 28, 2) := by decide +kernel
theorem dX1_decode_92 : decode cX1_decode 92 = .ok (.iand, 1) := by decide +kernel
theorem dX1_decode_93 : decode cX1_decode 93 = .ok (.putfield 29, 3) := by decide +kernel
theorem dX1_decode_96 : decode cX1_decode 96 = .ok (.aload_n 0, 1) := by decide +kernel
theorem dX1_decode_97 : decode cX1_decode 97 = .ok (.iload 4, 2) := by decide +kernel
theorem dX1_decode_99 : decode cX1_decode 99 = .ok (.bipush 8, 2) := by decide +kernel
theorem dX1_decode_101 : decode cX1_decode 101 = .ok (.aload_n 0, 1) := by decide +kernel
theorem dX1_decode_102 : decode cX1_decode 102 = .ok (.getfield 19, 3) := by decide +kernel
theorem dX1_decode_105 : decode cX1_decode 105 = .ok (.imul, 1) := by decide +kernel
theorem dX1_decode_106 : decode cX1_decode 106 = .ok (.invokestatic 32, 3) := by decide +kernel
theorem dX1_decode_109 : decode cX1_decode 109 = .ok (.putfield 38, 3) := by decide +kernel
theorem dX1_decode_112 : decode cX1_decode 112 = .ok (.aload_n 0, 1) := by decide +kernel
theorem dX1_decode_113 : decode cX1_decode 113 = .ok (.invokevirtual 41, 3) := by decide +kernel
theorem dX1_decode_116 : decode cX1_decode 116 = .ok (.aload_n 1, 1) := by decide +kernel
theorem dX1_decode_117 : decode cX1_decode 117 = .ok (.invokevirtual 45, 3) := by decide +kernel
theorem dX1_decode_120 : decode cX1_decode 120 = .ok (.if_icmp .gt 7, 3) := by decide +kernel
theorem dX1_decode_123 : decode cX1_decode 123 = .ok (.iconst 1, 1) := by decide +kernel
theorem dX1_decode_124 : decode cX1_decode 124 = .ok (.goto 4, 3) := by decide +kernel
theorem dX1_decode_127 : decode cX1_decode 127 = .ok (.iconst 0, 1) := by decide +kernel
theorem dX1_decode_128 : decode cX1_decode 128 = .ok (.ireturn, 1) := by decide +kernel
theorem dX1_placeBehind_0 : decode cX1_placeBehind 0 = .ok (.aload_n 0, 1) := by decide +kernel
theorem dX1_placeBehind_1 : decode cX1_placeBehind 1 = .ok (.getfield 13, 3) := by decide +kernel
theorem dX1_placeBehind_4 : decode cX1_placeBehind 4 = .ok (.iconst 1, 1) := by decide +kernel
theorem dX1_placeBehind_5 : decode cX1_placeBehind 5 = .ok (.iadd, 1) := by decide +kernel
theorem dX1_placeBehind_6 : decode cX1_placeBehind 6 = .ok (.aload_n 0, 1) := by decide +kernel
theorem dX1_placeBehind_7 : decode cX1_placeBehind 7 = .ok (.getfield 19, 3) := by decide +kernel
theorem dX1_placeBehind_10 : decode cX1_placeBehind 10 = .ok (.iadd, 1) := by decide +kernel
theorem dX1_placeBehind_11 : decode cX1_placeBehind 11 = .ok (.ireturn, 1) := by decide +kernel
theorem dX1_hasNumber_0 : decode cX1_hasNumber 0 = .ok (.aload_n 0, 1) := by decide +kernel
theorem dX1_hasNumber_1 : decode cX1_hasNumber 1 = .ok (.getfield 19, 3) := by decide +kernel
theorem dX1_hasNumber_4 : decode cX1_hasNumber 4 = .ok (.ifCond .le 7, 3) := by decide +kernel
theorem dX1_hasNumber_7 : decode cX1_hasNumber 7 = .ok (.iconst 1, 1) := by decide +kernel
theorem dX1_hasNumber_8 : decode cX1_hasNumber 8 = .ok (.goto 4, 3) := by decide +kernel
theorem dX1_hasNumber_11 : decode cX1_hasNumber 11 = .ok (.iconst 0, 1) := by decide +kernel
theorem dX1_hasNumber_12 : decode cX1_hasNumber 12 = .ok (.ireturn, 1) := by decide +kernel
