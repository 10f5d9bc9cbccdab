theorem dX4_clear_0 : decode cX4_clear 0 = .ok (.aload_n 0, 1) := by decide +kernel
theorem dX4_clear_1 : decode cX4_clear 1 = .ok (.getfield 16, 3) := by decide +kernel
theorem dX4_clear_4 : decode cX4_clear 4 = .ok (.invokevirtual 35, 3) := by decide +kernel
theorem dX4_clear_7 : decode cX4_clear 7 = .ok (.aload_n 0, 1) := by decide +kernel
theorem dX4_clear_8 : decode cX4_clear 8 = .ok (.getfield 20, 3) := by decide +kernel
theorem dX4_clear_11 : decode cX4_clear 11 = .ok (.invokevirtual 35, 3) := by decide +kernel
theorem dX4_clear_14 : decode cX4_clear 14 = .ok (.aload_n 0, 1) := by decide +kernel
theorem dX4_clear_15 : decode cX4_clear 15 = .ok (.getfield 28, 3) := by decide +kernel
theorem dX4_clear_18 : decode cX4_clear 18 = .ok (.invokevirtual 38, 3) := by decide +kernel
theorem dX4_clear_21 : decode cX4_clear 21 = .ok (.aload_n 0, 1) := by decide +kernel
theorem dX4_clear_22 : decode cX4_clear 22 = .ok (.getfield 32, 3) := by decide +kernel
theorem dX4_clear_25 : decode cX4_clear 25 = .ok (.invokevirtual 35, 3) := by decide +kernel
theorem dX4_clear_28 : decode cX4_clear 28 = .ok (.iconst 0, 1) := by decide +kernel
theorem dX4_clear_29 : decode cX4_clear 29 = .ok (.istore_n 1, 1) := by decide +kernel
theorem dX4_clear_30 : decode cX4_clear 30 = .ok (.iload_n 1, 1) := by decide +kernel
theorem dX4_clear_31 : decode cX4_clear 31 = .ok (.iconst 3, 1) := by decide +kernel
theorem dX4_clear_32 : decode cX4_clear 32 = .ok (.if_icmp .ge 17, 3) := by decide +kernel
theorem dX4_clear_35 : decode cX4_clear 35 = .ok (.aload_n 0, 1) := by decide +kernel
theorem dX4_clear_36 : decode cX4_clear 36 = .ok (.getfield 32, 3) := by decide +kernel
theorem dX4_clear_39 : decode cX4_clear 39 = .ok (.invokevirtual 39, 3) := by decide +kernel
theorem dX4_clear_42 : decode cX4_clear 42 = .ok (.pop, 1) := by decide +kernel
theorem dX4_clear_43 : decode cX4_clear 43 = .ok (.iinc 1 1, 3) := by decide +kernel
theorem dX4_clear_46 : decode cX4_clear 46 = .ok (.goto (-16), 3) := by decide +kernel
theorem dX4_clear_49 : decode cX4_clear 49 = .ok (.return_, 1) := by decide +kernel
theorem dX4_copyFrom_0 : decode cX4_copyFrom 0 = .ok (.aload_n 0, 1) := by decide +kernel
theorem dX4_copyFrom_1 : decode cX4_copyFrom 1 = .ok (.getfield 16, 3) := by decide +kernel
theorem dX4_copyFrom_4 : decode cX4_copyFrom 4 = .ok (.aload_n 1, 1) := by decide +kernel
theorem dX4_copyFrom_5 : decode cX4_copyFrom 5 = .ok (.getfield 16, 3) := by decide +kernel
theorem dX4_copyFrom_8 : decode cX4_copyFrom 8 = .ok (.invokevirtual 43, 3) := by decide +kernel
theorem dX4_copyFrom_11 : decode cX4_copyFrom 11 = .ok (.aload_n 0, 1) := by decide +kernel
theorem dX4_copyFrom_12 : decode cX4_copyFrom 12 = .ok (.getfield 20, 3) := by decide +kernel
theorem dX4_copyFrom_15 : decode cX4_copyFrom 15 = .ok (.aload_n 1, 1) := by decide +kernel
theorem dX4_copyFrom_16 : decode cX4_copyFrom 16 = .ok (.getfield 20, 3) := by decide +kernel
theorem dX4_copyFrom_19 : decode cX4_copyFrom 19 = .ok (.invokevirtual 43, 3) := by decide +kernel
theorem dX4_copyFrom_22 : decode cX4_copyFrom 22 = .ok (.aload_n 0, 1) := by decide +kernel
theorem dX4_copyFrom_23 : decode cX4_copyFrom 23 = .ok (.getfield 28, 3) := by decide +kernel
theorem dX4_copyFrom_26 : decode cX4_copyFrom 26 = .ok (.aload_n 1, 1) := by decide +kernel
theorem dX4_copyFrom_27 : decode cX4_copyFrom 27 = .ok (.getfield 28, 3) := by decide +kernel
theorem dX4_copyFrom_30 : decode cX4_copyFrom 30 = .ok (.invokevirtual 47, 3) := by decide +kernel
theorem dX4_copyFrom_33 : decode cX4_copyFrom 33 = .ok (.aload_n 0, 1) := by decide +kernel
theorem dX4_copyFrom_34 : decode cX4_copyFrom 34 = .ok (.getfield 32, 3) := by decide +kernel
theorem dX4_copyFrom_37 : decode cX4_copyFrom 37 = .ok (.aload_n 1, 1) := by decide +kernel
theorem dX4_copyFrom_38 : decode cX4_copyFrom 38 = .ok (.getfield 32, 3) := by decide +kernel
theorem dX4_copyFrom_41 : decode cX4_copyFrom 41 = .ok (.invokevirtual 43, 3) := by decide +kernel
theorem dX4_copyFrom_44 : decode cX4_copyFrom 44 = .ok (.return_, 1) := by decide +kernel
theorem dX4_bitsOf_0 : decode cX4_bitsOf 0 = .ok (.aload_n 0, 1) := by decide +kernel
theorem dX4_bitsOf_1 : decode cX4_bitsOf 1 = .ok (.getfield 32, 3) := by decide +kernel
theorem dX4_bitsOf_4 : decode cX4_bitsOf 4 = .ok (.iload_n 1, 1) := by decide +kernel
theorem dX4_bitsOf_5 : decode cX4_bitsOf 5 = .ok (.iload_n 2, 1) := by decide +kernel
theorem dX4_bitsOf_6 : decode cX4_bitsOf 6 = .ok (.invokevirtual 50, 3) := by decide +kernel
theorem dX4_bitsOf_9 : decode cX4_bitsOf 9 = .ok (.ireturn, 1) := by decide +kernel
theorem dX4_lengthen_0 : decode cX4_lengthen 0 = .ok (.aload_n 0, 1) := by decide +kernel
theorem dX4_lengthen_1 : decode cX4_lengthen 1 = .ok (.getfield 32, 3) := by decide +kernel
theorem dX4_lengthen_4 : decode cX4_lengthen 4 = .ok (.iload_n 1, 1) := by decide +kernel
theorem dX4_lengthen_5 : decode cX4_lengthen 5 = .ok (.iload_n 2, 1) := by decide +kernel
theorem dX4_lengthen_6 : decode cX4_lengthen 6 = .ok (.aload_n 0, 1) := by decide +kernel
theorem dX4_lengthen_7 : decode cX4_lengthen 7 = .ok (.getfield 32, 3) := by decide +kernel
theorem dX4_lengthen_10 : decode cX4_lengthen 10 = .ok (.iload_n 1, 1) := by decide +kernel
theorem dX4_lengthen_11 : decode cX4_lengthen 11 = .ok (.iload_n 2, 1) := by decide +kernel
theorem dX4_lengthen_12 : decode cX4_lengthen 12 = .ok (.invokevirtual 50, 3) := by decide +kernel
theorem dX4_lengthen_15 : decode cX4_lengthen 15 = .ok (.iload_n 3, 1) := by decide +kernel
theorem dX4_lengthen_16 : decode cX4_lengthen 16 = .ok (.iadd, 1) := by decide +kernel
theorem dX4_lengthen_17 : decode cX4_lengthen 17 = .ok (.invokevirtual 54, 3) := by decide +kernel
theorem dX4_lengthen_20 : decode cX4_lengthen 20 = .ok (.return_, 1) := by decide +kernel
theorem dX4_hasIdZero_0 : decode cX4_hasIdZero 0 = .ok (.iconst 0, 1) := by decide +kernel
theorem dX4_hasIdZero_1 : decode cX4_hasIdZero 1 = .ok (.istore_n 1, 1) := by decide +kernel
theorem dX4_hasIdZero_2 : decode cX4_hasIdZero 2 = .ok (.iload_n 1, 1) := by decide +kernel
theorem dX4_hasIdZero_3 : decode cX4_hasIdZero 3 = .ok (.aload_n 0, 1) := by decide +kernel
theorem dX4_hasIdZero_4 : decode cX4_hasIdZero 4 = .ok (.getfield 16, 3) := by decide +kernel
theorem dX4_hasIdZero_7 : decode cX4_hasIdZero 7 = .ok (.invokevirtual 58, 3) := by decide +kernel
theorem dX4_hasIdZero_10 : decode cX4_hasIdZero 10 = .ok (.if_icmp .ge 23, 3) := by decide +kernel
theorem dX4_hasIdZero_13 : decode cX4_hasIdZero 13 = .ok (.aload_n 0, 1) := by decide +kernel
theorem dX4_hasIdZero_14 : decode cX4_hasIdZero 14 = .ok (.getfield 16, 3) := by decide +kernel
theorem dX4_hasIdZero_17 : decode cX4_hasIdZero 17 = .ok (.iload_n 1, 1) := by decide +kernel
theorem dX4_hasIdZero_18 : decode cX4_hasIdZero 18 = .ok (.iconst 1, 1) := by decide +kernel
theorem dX4_hasIdZero_19 : decode cX4_hasIdZero 19 = .ok (.invokevirtual 50, 3) := by decide +kernel
theorem dX4_hasIdZero_22 : decode cX4_hasIdZero 22 = .ok (.ifCond .ne 5, 3) := by decide +kernel
theorem dX4_hasIdZero_25 : decode cX4_hasIdZero 25 = .ok (.iconst 1, 1) := by decide +kernel
theorem dX4_hasIdZero_26 : decode cX4_hasIdZero 26 = .ok (.ireturn, 1) := by decide +kernel
theorem dX4_hasIdZero_27 : decode cX4_hasIdZero 27 = .ok (.iinc 1 1, 3) := by decide +kernel
theorem dX4_hasIdZero_30 : decode cX4_hasIdZero 30 = .ok (.goto (-28), 3) := by decide +kernel
theorem dX4_hasIdZero_33 : decode cX4_hasIdZero 33 = .ok (.iconst 0, 1) := by decide +kernel
theorem dX4_hasIdZero_34 : decode cX4_hasIdZero 34 = .ok (.ireturn, 1) := by decide +kernel
theorem dX4_hasOtherIds_0 : decode cX4_hasOtherIds 0 = .ok (.iconst 0, 1) := by decide +kernel
theorem dX4_hasOtherIds_1 : decode cX4_hasOtherIds 1 = .ok (.istore_n 1, 1) := by decide +kernel
theorem dX4_hasOtherIds_2 : decode cX4_hasOtherIds 2 = .ok (.iload_n 1, 1) := by decide +kernel
theorem dX4_hasOtherIds_3 : decode cX4_hasOtherIds 3 = .ok (.aload_n 0, 1) := by decide +kernel
theorem dX4_hasOtherIds_4 : decode cX4_hasOtherIds 4 = .ok (.getfield 16, 3) := by decide +kernel
theorem dX4_hasOtherIds_7 : decode cX4_hasOtherIds 7 = .ok (.invokevirtual 58, 3) := by decide +kernel
theorem dX4_hasOtherIds_10 : decode cX4_hasOtherIds 10 = .ok (.if_icmp .ge 23, 3) := by decide +kernel
theorem dX4_hasOtherIds_13 : decode cX4_hasOtherIds 13 = .ok (.aload_n 0, 1) := by decide +kernel
theorem dX4_hasOtherIds_14 : decode cX4_hasOtherIds 14 = .ok (.getfield 16, 3) := by decide +kernel
theorem dX4_hasOtherIds_17 : decode cX4_hasOtherIds 17 = .ok (.iload_n 1, 1) := by decide +kernel
theorem dX4_hasOtherIds_18 : decode cX4_hasOtherIds 18 = .ok (.iconst 1, 1) := by decide +kernel
theorem dX4_hasOtherIds_19 : decode cX4_hasOtherIds 19 = .ok (.invokevirtual 50, 3) := by decide +kernel
theorem dX4_hasOtherIds_22 : decode cX4_hasOtherIds 22 = .ok (.ifCond .eq 5, 3) := by decide +kernel
theorem dX4_hasOtherIds_25 : decode cX4_hasOtherIds 25 = .ok (.iconst 1, 1) := by decide +kernel
theorem dX4_hasOtherIds_26 : decode cX4_hasOtherIds 26 = .ok (.ireturn, 1) := by decide +kernel
theorem dX4_hasOtherIds_27 : decode cX4_hasOtherIds 27 = .ok (.iinc 1 1, 3) := by decide +kernel
theorem dX4_hasOtherIds_30 : decode cX4_hasOtherIds 30 = .ok (.goto (-28), 3) := by decide +kernel
theorem dX4_hasOtherIds_33 : decode cX4_hasOtherIds 33 = .ok (.iconst 0, 1) := by decide +kernel
theorem dX4_hasOtherIds_34 : decode cX4_hasOtherIds 34 = .ok (.ireturn, 1) := by decide +kernel
theorem dX4_headBytes_0 : decode cX4_headBytes 0 = .ok (.aload_n 0, 1) := by decide +kernel
theorem dX4_headBytes_1 : decode cX4_headBytes 1 = .ok (.invokevirtual 61, 3) := by decide +kernel
theorem dX4_headBytes_4 : decode cX4_headBytes 4 = .ok (.ifCond .eq 7, 3) := by decide +kernel
theorem dX4_headBytes_7 : decode cX4_headBytes 7 = .ok (.iconst 1, 1) := by decide +kernel
theorem dX4_headBytes_8 : decode cX4_headBytes 8 = .ok (.goto 4, 3) := by decide +kernel
theorem dX4_headBytes_11 : decode cX4_headBytes 11 = .ok (.iconst 0, 1) := by decide +kernel
theorem dX4_headBytes_12 : decode cX4_headBytes 12 = .ok (.ireturn, 1) := by decide +kernel
theorem dX4_isOfLetter_0 : decode cX4_isOfLetter 0 = .ok (.aload_n 0, 1) := by decide +kernel
theorem dX4_isOfLetter_1 : decode cX4_isOfLetter 1 = .ok (.getfield 16, 3) := by decide +kernel
theorem dX4_isOfLetter_4 : decode cX4_isOfLetter 4 = .ok (.iload_n 1, 1) := by decide +kernel
theorem dX4_isOfLetter_5 : decode cX4_isOfLetter 5 = .ok (.iconst 0, 1) := by decide +kernel
theorem dX4_isOfLetter_6 : decode cX4_isOfLetter 6 = .ok (.invokevirtual 50, 3) := by decide +kernel
theorem dX4_isOfLetter_9 : decode cX4_isOfLetter 9 = .ok (.iload_n 2, 1) := by decide +kernel
theorem dX4_isOfLetter_10 : decode cX4_isOfLetter 10 = .ok (.if_icmp .ne 20, 3) := by decide +kernel
theorem dX4_isOfLetter_13 : decode cX4_isOfLetter 13 = .ok (.aload_n 0, 1) := by decide +kernel
theorem dX4_isOfLetter_14 : decode cX4_isOfLetter 14 = .ok (.getfield 16, 3) := by decide +kernel
theorem dX4_isOfLetter_17 : decode cX4_isOfLetter 17 = .ok (.iload_n 1, 1) := by decide +kernel
theorem dX4_isOfLetter_18 : decode cX4_isOfLetter 18 = .ok (.iconst 1, 1) := by decide +kernel
theorem dX4_isOfLetter_19 : decode cX4_isOfLetter 19 = .ok (.invokevirtual 50, 3) := by decide +kernel
theorem dX4_isOfLetter_22 : decode cX4_isOfLetter 22 = .ok (.iload_n 3, 1) := by decide +kernel
theorem dX4_isOfLetter_23 : decode cX4_isOfLetter 23 = .ok (.if_icmp .ne 7, 3) := by decide +kernel
theorem dX4_isOfLetter_26 : decode cX4_isOfLetter 26 = .ok (.iconst 1, 1) := by decide +kernel
theorem dX4_isOfLetter_27 : decode cX4_isOfLetter 27 = .ok (.goto 4, 3) := by decide +kernel
theorem dX4_isOfLetter_30 : decode cX4_isOfLetter 30 = .ok (.iconst 0, 1) := by decide +kernel
theorem dX4_isOfLetter_31 : decode cX4_isOfLetter 31 = .ok (.ireturn, 1) := by decide +kernel
theorem dX4_isInRange_0 : decode cX4_isInRange 0 = .ok (.iload_n 2, 1) := by decide +kernel
theorem dX4_isInRange_1 : decode cX4_isInRange 1 = .ok (.aload_n 0, 1) := by decide +kernel
theorem dX4_isInRange_2 : decode cX4_isInRange 2 = .ok (.getfield 16, 3) := by decide +kernel
theorem dX4_isInRange_5 : decode cX4_isInRange 5 = .ok (.iload_n 1, 1) := by decide +kernel
theorem dX4_isInRange_6 : decode cX4_isInRange 6 = .ok (.iconst 4, 1) := by decide +kernel
theorem dX4_isInRange_7 : decode cX4_isInRange 7 = .ok (.invokevirtual 50, 3) := by decide +kernel
theorem dX4_isInRange_10 : decode cX4_isInRange 10 = .ok (.aload_n 0, 1) := by decide +kernel
theorem dX4_isInRange_11 : decode cX4_isInRange 11 = .ok (.getfield 16, 3) := by decide +kernel
theorem dX4_isInRange_14 : decode cX4_isInRange 14 = .ok (.iload_n 1, 1) := by decide +kernel
theorem dX4_isInRange_15 : decode cX4_isInRange 15 = .ok (.iconst 5, 1) := by decide +kernel
theorem dX4_isInRange_16 : decode cX4_isInRange 16 = .ok (.invokevirtual 50, 3) := by decide +kernel
theorem dX4_isInRange_19 : decode cX4_isInRange 19 = .ok (.invokestatic 65, 3) := by decide +kernel
theorem dX4_isInRange_22 : decode cX4_isInRange 22 = .ok (.ireturn, 1) := by decide +kernel
theorem dX4_fieldsOfGroup_0 : decode cX4_fieldsOfGroup 0 = .ok (.iconst 0, 1) := by decide +kernel
theorem dX4_fieldsOfGroup_1 : decode cX4_fieldsOfGroup 1 = .ok (.istore_n 2, 1) := by decide +kernel
theorem dX4_fieldsOfGroup_2 : decode cX4_fieldsOfGroup 2 = .ok (.iconst 0, 1) := by decide +kernel
theorem dX4_fieldsOfGroup_3 : decode cX4_fieldsOfGroup 3 = .ok (.istore_n 3, 1) := by decide +kernel
theorem dX4_fieldsOfGroup_4 : decode cX4_fieldsOfGroup 4 = .ok (.iload_n 3, 1) := by decide +kernel
theorem dX4_fieldsOfGroup_5 : decode cX4_fieldsOfGroup 5 = .ok (.aload_n 0, 1) := by decide +kernel
theorem dX4_fieldsOfGroup_6 : decode cX4_fieldsOfGroup 6 = .ok (.getfield 16, 3) := by decide +kernel
theorem dX4_fieldsOfGroup_9 : decode cX4_fieldsOfGroup 9 = .ok (.invokevirtual 58, 3) := by decide +kernel
theorem dX4_fieldsOfGroup_12 : decode cX4_fieldsOfGroup 12 = .ok (.if_icmp .ge 21, 3) := by decide +kernel
theorem dX4_fieldsOfGroup_15 : decode cX4_fieldsOfGroup 15 = .ok (.aload_n 0, 1) := by decide +kernel
theorem dX4_fieldsOfGroup_16 : decode cX4_fieldsOfGroup 16 = .ok (.iload_n 3, 1) := by decide +kernel
theorem dX4_fieldsOfGroup_17 : decode cX4_fieldsOfGroup 17 = .ok (.iload_n 1, 1) := by decide +kernel
theorem dX4_fieldsOfGroup_18 : decode cX4_fieldsOfGroup 18 = .ok (.invokevirtual 69, 3) := by decide +kernel
theorem dX4_fieldsOfGroup_21 : decode cX4_fieldsOfGroup 21 = .ok (.ifCond .eq 6, 3) := by decide +kernel
theorem dX4_fieldsOfGroup_24 : decode cX4_fieldsOfGroup 24 = .ok (.iinc 2 1, 3) := by decide +kernel
theorem dX4_fieldsOfGroup_27 : decode cX4_fieldsOfGroup 27 = .ok (.iinc 3 1, 3) := by decide +kernel
theorem dX4_fieldsOfGroup_30 : decode cX4_fieldsOfGroup 30 = .ok (.goto (-26), 3) := by decide +kernel
theorem dX4_fieldsOfGroup_33 : decode cX4_fieldsOfGroup 33 = .ok (.iload_n 2, 1) := by decide +kernel
theorem dX4_fieldsOfGroup_34 : decode cX4_fieldsOfGroup 34 = .ok (.ireturn, 1) := by decide +kernel
theorem dX4_isInGroup_0 : decode cX4_isInGroup 0 = .ok (.aload_n 0, 1) := by decide +kernel
theorem dX4_isInGroup_1 : decode cX4_isInGroup 1 = .ok (.getfield 16, 3) := by decide +kernel
theorem dX4_isInGroup_4 : decode cX4_isInGroup 4 = .ok (.iload_n 1, 1) := by decide +kernel
theorem dX4_isInGroup_5 : decode cX4_isInGroup 5 = .ok (.bipush 11, 2) := by decide +kernel
theorem dX4_isInGroup_7 : decode cX4_isInGroup 7 = .ok (.invokevirtual 50, 3) := by decide +kernel
theorem dX4_isInGroup_10 : decode cX4_isInGroup 10 = .ok (.istore_n 3, 1) := by decide +kernel
theorem dX4_isInGroup_11 : decode cX4_isInGroup 11 = .ok (.iconst 0, 1) := by decide +kernel
theorem dX4_isInGroup_12 : decode cX4_isInGroup 12 = .ok (.istore 4, 2) := by decide +kernel
theorem dX4_isInGroup_14 : decode cX4_isInGroup 14 = .ok (.iload 4, 2) := by decide +kernel
theorem dX4_isInGroup_16 : decode cX4_isInGroup 16 = .ok (.bipush 12, 2) := by decide +kernel
theorem dX4_isInGroup_18 : decode cX4_isInGroup 18 = .ok (.if_icmp .ge 32, 3) := by decide +kernel
theorem dX4_isInGroup_21 : decode cX4_isInGroup 21 = .ok (.iload_n 3, 1) := by decide +kernel
theorem dX4_isInGroup_22 : decode cX4_isInGroup 22 = .ok (.bipush (-6), 2) := by decide +kernel
theorem dX4_isInGroup_24 : decode cX4_isInGroup 24 = .ok (.if_icmp .eq 26, 3) := by decide +kernel
theorem dX4_isInGroup_27 : decode cX4_isInGroup 27 = .ok (.iload_n 3, 1) := by decide +kernel
theorem dX4_isInGroup_28 : decode cX4_isInGroup 28 = .ok (.iload_n 2, 1) := by decide +kernel
theorem dX4_isInGroup_29 : decode cX4_isInGroup 29 = .ok (.if_icmp .ne 5, 3) := by decide +kernel
theorem dX4_isInGroup_32 : decode cX4_isInGroup 32 = .ok (.iconst 1, 1) := by decide +kernel
theorem dX4_isInGroup_33 : decode cX4_isInGroup 33 = .ok (.ireturn, 1) := by decide +kernel
theorem dX4_isInGroup_34 : decode cX4_isInGroup 34 = .ok (.aload_n 0, 1) := by decide +kernel
theorem dX4_isInGroup_35 : decode cX4_isInGroup 35 = .ok (.getfield 20, 3) := by decide +kernel
theorem dX4_isInGroup_38 : decode cX4_isInGroup 38 = .ok (.iload_n 3, 1) := by decide +kernel
theorem dX4_isInGroup_39 : decode cX4_isInGroup 39 = .ok (.iconst 2, 1) := by decide +kernel
theorem dX4_isInGroup_40 : decode cX4_isInGroup 40 = .ok (.invokevirtual 50, 3) := by decide +kernel
theorem dX4_isInGroup_43 : decode cX4_isInGroup 43 = .ok (.istore_n 3, 1) := by decide +kernel
theorem dX4_isInGroup_44 : decode cX4_isInGroup 44 = .ok (.iinc 4 1, 3) := by decide +kernel
theorem dX4_isInGroup_47 : decode cX4_isInGroup 47 = .ok (.goto (-33), 3) := by decide +kernel
theorem dX4_isInGroup_50 : decode cX4_isInGroup 50 = .ok (.iconst 0, 1) := by decide +kernel
theorem dX4_isInGroup_51 : decode cX4_isInGroup 51 = .ok (.ireturn, 1) := by decide +kernel
theorem dX4_addSlotUses_0 : decode cX4_addSlotUses 0 = .ok (.iconst 0, 1) := by decide +kernel
theorem dX4_addSlotUses_1 : decode cX4_addSlotUses 1 = .ok (.istore_n 2, 1) := by decide +kernel
theorem dX4_addSlotUses_2 : decode cX4_addSlotUses 2 = .ok (.iload_n 2, 1) := by decide +kernel
theorem dX4_addSlotUses_3 : decode cX4_addSlotUses 3 = .ok (.aload_n 1, 1) := by decide +kernel
theorem dX4_addSlotUses_4 : decode cX4_addSlotUses 4 = .ok (.invokevirtual 73, 3) := by decide +kernel
theorem dX4_addSlotUses_7 : decode cX4_addSlotUses 7 = .ok (.if_icmp .ge 21, 3) := by decide +kernel
theorem dX4_addSlotUses_10 : decode cX4_addSlotUses 10 = .ok (.aload_n 0, 1) := by decide +kernel
theorem dX4_addSlotUses_11 : decode cX4_addSlotUses 11 = .ok (.getfield 28, 3) := by decide +kernel
theorem dX4_addSlotUses_14 : decode cX4_addSlotUses 14 = .ok (.aload_n 1, 1) := by decide +kernel
theorem dX4_addSlotUses_15 : decode cX4_addSlotUses 15 = .ok (.iload_n 2, 1) := by decide +kernel
theorem dX4_addSlotUses_16 : decode cX4_addSlotUses 16 = .ok (.invokevirtual 76, 3) := by decide +kernel
theorem dX4_addSlotUses_19 : decode cX4_addSlotUses 19 = .ok (.invokevirtual 79, 3) := by decide +kernel
theorem dX4_addSlotUses_22 : decode cX4_addSlotUses 22 = .ok (.iinc 2 1, 3) := by decide +kernel
theorem dX4_addSlotUses_25 : decode cX4_addSlotUses 25 = .ok (.goto (-23), 3) := by decide +kernel
theorem dX4_addSlotUses_28 : decode cX4_addSlotUses 28 = .ok (.return_, 1) := by decide +kernel
theorem dX4_slotUse_0 : decode cX4_slotUse 0 = .ok (.aload_n 0, 1) := by decide +kernel
theorem dX4_slotUse_1 : decode cX4_slotUse 1 = .ok (.getfield 28, 3) := by decide +kernel
theorem dX4_slotUse_4 : decode cX4_slotUse 4 = .ok (.aload_n 0, 1) := by decide +kernel
theorem dX4_slotUse_5 : decode cX4_slotUse 5 = .ok (.getfield 16, 3) := by decide +kernel
theorem dX4_slotUse_8 : decode cX4_slotUse 8 = .ok (.iload_n 1, 1) := by decide +kernel
theorem dX4_slotUse_9 : decode cX4_slotUse 9 = .ok (.bipush 13, 2) := by decide +kernel
theorem dX4_slotUse_11 : decode cX4_slotUse 11 = .ok (.invokevirtual 50, 3) := by decide +kernel
theorem dX4_slotUse_14 : decode cX4_slotUse 14 = .ok (.iload_n 2, 1) := by decide +kernel
theorem dX4_slotUse_15 : decode cX4_slotUse 15 = .ok (.iadd, 1) := by decide +kernel
theorem dX4_slotUse_16 : decode cX4_slotUse 16 = .ok (.invokevirtual 76, 3) := by decide +kernel
theorem dX4_slotUse_19 : decode cX4_slotUse 19 = .ok (.ireturn, 1) := by decide +kernel
theorem dX4_firstPlaceOfUse_0 : decode cX4_firstPlaceOfUse 0 = .ok (.aload_n 0, 1) := by decide +kernel
theorem dX4_firstPlaceOfUse_1 : decode cX4_firstPlaceOfUse 1 = .ok (.iload_n 1, 1) := by decide +kernel
theorem dX4_firstPlaceOfUse_2 : decode cX4_firstPlaceOfUse 2 = .ok (.iload_n 2, 1) := by decide +kernel
theorem dX4_firstPlaceOfUse_3 : decode cX4_firstPlaceOfUse 3 = .ok (.invokevirtual 82, 3) := by decide +kernel
theorem dX4_firstPlaceOfUse_6 : decode cX4_firstPlaceOfUse 6 = .ok (.istore_n 3, 1) := by decide +kernel
theorem dX4_firstPlaceOfUse_7 : decode cX4_firstPlaceOfUse 7 = .ok (.iconst 0, 1) := by decide +kernel
theorem dX4_firstPlaceOfUse_8 : decode cX4_firstPlaceOfUse 8 = .ok (.istore 4, 2) := by decide +kernel
theorem dX4_firstPlaceOfUse_10 : decode cX4_firstPlaceOfUse 10 = .ok (.iload 4, 2) := by decide +kernel
theorem dX4_firstPlaceOfUse_12 : decode cX4_firstPlaceOfUse 12 = .ok (.iload_n 2, 1) := by decide +kernel
theorem dX4_firstPlaceOfUse_13 : decode cX4_firstPlaceOfUse 13 = .ok (.if_icmp .ge 23, 3) := by decide +kernel
theorem dX4_firstPlaceOfUse_16 : decode cX4_firstPlaceOfUse 16 = .ok (.aload_n 0, 1) := by decide +kernel
theorem dX4_firstPlaceOfUse_17 : decode cX4_firstPlaceOfUse 17 = .ok (.iload_n 1, 1) := by decide +kernel
theorem dX4_firstPlaceOfUse_18 : decode cX4_firstPlaceOfUse 18 = .ok (.iload 4, 2) := by decide +kernel
theorem dX4_firstPlaceOfUse_20 : decode cX4_firstPlaceOfUse 20 = .ok (.invokevirtual 82, 3) := by decide +kernel
theorem dX4_firstPlaceOfUse_23 : decode cX4_firstPlaceOfUse 23 = .ok (.iload_n 3, 1) := by decide +kernel
theorem dX4_firstPlaceOfUse_24 : decode cX4_firstPlaceOfUse 24 = .ok (.if_icmp .ne 6, 3) := by decide +kernel
theorem dX4_firstPlaceOfUse_27 : decode cX4_firstPlaceOfUse 27 = .ok (.iload 4, 2) := by decide +kernel
theorem dX4_firstPlaceOfUse_29 : decode cX4_firstPlaceOfUse 29 = .ok (.ireturn, 1) := by decide +kernel
theorem dX4_firstPlaceOfUse_30 : decode cX4_firstPlaceOfUse 30 = .ok (.iinc 4 1, 3) := by decide +kernel
theorem dX4_firstPlaceOfUse_33 : decode cX4_firstPlaceOfUse 33 = .ok (.goto (-23), 3) := by decide +kernel
theorem dX4_firstPlaceOfUse_36 : decode cX4_firstPlaceOfUse 36 = .ok (.iload_n 2, 1) := by decide +kernel
theorem dX4_firstPlaceOfUse_37 : decode cX4_firstPlaceOfUse 37 = .ok (.ireturn, 1) := by decide +kernel
theorem dX4_placeOfLeastUse_0 : decode cX4_placeOfLeastUse 0 = .ok (.iconst (-1), 1) := by decide +kernel
theorem dX4_placeOfLeastUse_1 : decode cX4_placeOfLeastUse 1 = .ok (.istore_n 3, 1) := by decide +kernel
theorem dX4_placeOfLeastUse_2 : decode cX4_placeOfLeastUse 2 = .ok (.iconst 0, 1) := by decide +kernel
theorem dX4_placeOfLeastUse_3 : decode cX4_placeOfLeastUse 3 = .ok (.istore 4, 2) := by decide +kernel
theorem dX4_placeOfLeastUse_5 : decode cX4_placeOfLeastUse 5 = .ok (.iload 4, 2) := by decide +kernel
theorem dX4_placeOfLeastUse_7 : decode cX4_placeOfLeastUse 7 = .ok (.bipush 32, 2) := by decide +kernel
theorem dX4_placeOfLeastUse_9 : decode cX4_placeOfLeastUse 9 = .ok (.if_icmp .ge 54, 3) := by decide +kernel
theorem dX4_placeOfLeastUse_12 : decode cX4_placeOfLeastUse 12 = .ok (.iload_n 2, 1) := by decide +kernel
theorem dX4_placeOfLeastUse_13 : decode cX4_placeOfLeastUse 13 = .ok (.iload 4, 2) := by decide +kernel
theorem dX4_placeOfLeastUse_15 : decode cX4_placeOfLeastUse 15 = .ok (.iushr, 1) := by decide +kernel
theorem dX4_placeOfLeastUse_16 : decode cX4_placeOfLeastUse 16 = .ok (.iconst 1, 1) := by decide +kernel
theorem dX4_placeOfLeastUse_17 : decode cX4_placeOfLeastUse 17 = .ok (.iand, 1) := by decide +kernel
theorem dX4_placeOfLeastUse_18 : decode cX4_placeOfLeastUse 18 = .ok (.iconst 1, 1) := by decide +kernel
theorem dX4_placeOfLeastUse_19 : decode cX4_placeOfLeastUse 19 = .ok (.if_icmp .ne 7, 3) := by decide +kernel
theorem dX4_placeOfLeastUse_22 : decode cX4_placeOfLeastUse 22 = .ok (.iconst 1, 1) := by decide +kernel
theorem dX4_placeOfLeastUse_23 : decode cX4_placeOfLeastUse 23 = .ok (.goto 4, 3) := by decide +kernel
theorem dX4_placeOfLeastUse_26 : decode cX4_placeOfLeastUse 26 = .ok (.iconst 0, 1) := by decide +kernel
theorem dX4_placeOfLeastUse_27 : decode cX4_placeOfLeastUse 27 = .ok (.istore 5, 2) := by decide +kernel
theorem dX4_placeOfLeastUse_29 : decode cX4_placeOfLeastUse 29 = .ok (.iload 5, 2) := by decide +kernel
theorem dX4_placeOfLeastUse_31 : decode cX4_placeOfLeastUse 31 = .ok (.ifCond .eq 26, 3) := by decide +kernel
theorem dX4_placeOfLeastUse_34 : decode cX4_placeOfLeastUse 34 = .ok (.iload_n 3, 1) := by decide +kernel
theorem dX4_placeOfLeastUse_35 : decode cX4_placeOfLeastUse 35 = .ok (.ifCond .lt 19, 3) := by decide +kernel
theorem dX4_placeOfLeastUse_38 : decode cX4_placeOfLeastUse 38 = .ok (.aload_n 0, 1) := by decide +kernel
theorem dX4_placeOfLeastUse_39 : decode cX4_placeOfLeastUse 39 = .ok (.iload_n 1, 1) := by decide +kernel
theorem dX4_placeOfLeastUse_40 : decode cX4_placeOfLeastUse 40 = .ok (.iload 4, 2) := by decide +kernel
theorem dX4_placeOfLeastUse_42 : decode cX4_placeOfLeastUse 42 = .ok (.invokevirtual 82, 3) := by decide +kernel
theorem dX4_placeOfLeastUse_45 : decode cX4_placeOfLeastUse 45 = .ok (.aload_n 0, 1) := by decide +kernel
theorem dX4_placeOfLeastUse_46 : decode cX4_placeOfLeastUse 46 = .ok (.iload_n 1, 1) := by decide +kernel
theorem dX4_placeOfLeastUse_47 : decode cX4_placeOfLeastUse 47 = .ok (.iload_n 3, 1) := by decide +kernel
theorem dX4_placeOfLeastUse_48 : decode cX4_placeOfLeastUse 48 = .ok (.invokevirtual 82, 3) := by decide +kernel
theorem dX4_placeOfLeastUse_51 : decode cX4_placeOfLeastUse 51 = .ok (.if_icmp .ge 6, 3) := by decide +kernel
theorem dX4_placeOfLeastUse_54 : decode cX4_placeOfLeastUse 54 = .ok (.iload 4, 2) := by decide +kernel
theorem dX4_placeOfLeastUse_56 : decode cX4_placeOfLeastUse 56 = .ok (.istore_n 3, 1) := by decide +kernel
theorem dX4_placeOfLeastUse_57 : decode cX4_placeOfLeastUse 57 = .ok (.iinc 4 1, 3) := by decide +kernel
theorem dX4_placeOfLeastUse_60 : decode cX4_placeOfLeastUse 60 = .ok (.goto (-55), 3) := by decide +kernel
theorem dX4_placeOfLeastUse_63 : decode cX4_placeOfLeastUse 63 = .ok (.iload_n 3, 1) := by decide +kernel
theorem dX4_placeOfLeastUse_64 : decode cX4_placeOfLeastUse 64 = .ok (.ireturn, 1) := by decide +kernel
theorem dX4_wantedByte_0 : decode cX4_wantedByte 0 = .ok (.iconst 0, 1) := by decide +kernel
theorem dX4_wantedByte_1 : decode cX4_wantedByte 1 = .ok (.istore 4, 2) := by decide +kernel
theorem dX4_wantedByte_3 : decode cX4_wantedByte 3 = .ok (.iconst 0, 1) := by decide +kernel
theorem dX4_wantedByte_4 : decode cX4_wantedByte 4 = .ok (.istore 5, 2) := by decide +kernel
theorem dX4_wantedByte_6 : decode cX4_wantedByte 6 = .ok (.iload 5, 2) := by decide +kernel
theorem dX4_wantedByte_8 : decode cX4_wantedByte 8 = .ok (.aload_n 0, 1) := by decide +kernel
theorem dX4_wantedByte_9 : decode cX4_wantedByte 9 = .ok (.getfield 16, 3) := by decide +kernel
theorem dX4_wantedByte_12 : decode cX4_wantedByte 12 = .ok (.invokevirtual 58, 3) := by decide +kernel
theorem dX4_wantedByte_15 : decode cX4_wantedByte 15 = .ok (.if_icmp .ge 49, 3) := by decide +kernel
theorem dX4_wantedByte_18 : decode cX4_wantedByte 18 = .ok (.aload_n 0, 1) := by decide +kernel
theorem dX4_wantedByte_19 : decode cX4_wantedByte 19 = .ok (.iload 5, 2) := by decide +kernel
theorem dX4_wantedByte_21 : decode cX4_wantedByte 21 = .ok (.iload_n 1, 1) := by decide +kernel
theorem dX4_wantedByte_22 : decode cX4_wantedByte 22 = .ok (.iload_n 2, 1) := by decide +kernel
theorem dX4_wantedByte_23 : decode cX4_wantedByte 23 = .ok (.invokevirtual 85, 3) := by decide +kernel
theorem dX4_wantedByte_26 : decode cX4_wantedByte 26 = .ok (.ifCond .eq 32, 3) := by decide +kernel
theorem dX4_wantedByte_29 : decode cX4_wantedByte 29 = .ok (.aload_n 0, 1) := by decide +kernel
theorem dX4_wantedByte_30 : decode cX4_wantedByte 30 = .ok (.getfield 16, 3) := by decide +kernel
theorem dX4_wantedByte_33 : decode cX4_wantedByte 33 = .ok (.iload 5, 2) := by decide +kernel
theorem dX4_wantedByte_35 : decode cX4_wantedByte 35 = .ok (.bipush 6, 2) := by decide +kernel
theorem dX4_wantedByte_37 : decode cX4_wantedByte 37 = .ok (.invokevirtual 50, 3) := by decide +kernel
theorem dX4_wantedByte_40 : decode cX4_wantedByte 40 = .ok (.ifCond .ne 18, 3) := by decide +kernel
theorem dX4_wantedByte_43 : decode cX4_wantedByte 43 = .ok (.iload 4, 2) := by decide +kernel
theorem dX4_wantedByte_45 : decode cX4_wantedByte 45 = .ok (.aload_n 0, 1) := by decide +kernel
theorem dX4_wantedByte_46 : decode cX4_wantedByte 46 = .ok (.iload 5, 2) := by decide +kernel
theorem dX4_wantedByte_48 : decode cX4_wantedByte 48 = .ok (.iload_n 3, 1) := by decide +kernel
theorem dX4_wantedByte_49 : decode cX4_wantedByte 49 = .ok (.bipush 8, 2) := by decide +kernel
theorem dX4_wantedByte_51 : decode cX4_wantedByte 51 = .ok (.imul, 1) := by decide +kernel
theorem dX4_wantedByte_52 : decode cX4_wantedByte 52 = .ok (.invokevirtual 88, 3) := by decide +kernel
theorem dX4_wantedByte_55 : decode cX4_wantedByte 55 = .ok (.ior, 1) := by decide +kernel
theorem dX4_wantedByte_56 : decode cX4_wantedByte 56 = .ok (.istore 4, 2) := by decide +kernel
theorem dX4_wantedByte_58 : decode cX4_wantedByte 58 = .ok (.iinc 5 1, 3) := by decide +kernel
theorem dX4_wantedByte_61 : decode cX4_wantedByte 61 = .ok (.goto (-55), 3) := by decide +kernel
theorem dX4_wantedByte_64 : decode cX4_wantedByte 64 = .ok (.iload 4, 2) := by decide +kernel
theorem dX4_wantedByte_66 : decode cX4_wantedByte 66 = .ok (.ireturn, 1) := by decide +kernel
theorem dX4_wantedPart_0 : decode cX4_wantedPart 0 = .ok (.iconst 0, 1) := by decide +kernel
theorem dX4_wantedPart_1 : decode cX4_wantedPart 1 = .ok (.istore_n 3, 1) := by decide +kernel
theorem dX4_wantedPart_2 : decode cX4_wantedPart 2 = .ok (.iconst 0, 1) := by decide +kernel
theorem dX4_wantedPart_3 : decode cX4_wantedPart 3 = .ok (.istore 4, 2) := by decide +kernel
theorem dX4_wantedPart_5 : decode cX4_wantedPart 5 = .ok (.iload 4, 2) := by decide +kernel
theorem dX4_wantedPart_7 : decode cX4_wantedPart 7 = .ok (.bipush 8, 2) := by decide +kernel
theorem dX4_wantedPart_9 : decode cX4_wantedPart 9 = .ok (.if_icmp .ge 66, 3) := by decide +kernel
theorem dX4_wantedPart_12 : decode cX4_wantedPart 12 = .ok (.iload_n 2, 1) := by decide +kernel
theorem dX4_wantedPart_13 : decode cX4_wantedPart 13 = .ok (.iload 4, 2) := by decide +kernel
theorem dX4_wantedPart_15 : decode cX4_wantedPart 15 = .ok (.iadd, 1) := by decide +kernel
theorem dX4_wantedPart_16 : decode cX4_wantedPart 16 = .ok (.aload_n 0, 1) := by decide +kernel
theorem dX4_wantedPart_17 : decode cX4_wantedPart 17 = .ok (.getfield 16, 3) := by decide +kernel
theorem dX4_wantedPart_20 : decode cX4_wantedPart 20 = .ok (.iload_n 1, 1) := by decide +kernel
theorem dX4_wantedPart_21 : decode cX4_wantedPart 21 = .ok (.iconst 2, 1) := by decide +kernel
theorem dX4_wantedPart_22 : decode cX4_wantedPart 22 = .ok (.invokevirtual 50, 3) := by decide +kernel
theorem dX4_wantedPart_25 : decode cX4_wantedPart 25 = .ok (.isub, 1) := by decide +kernel
theorem dX4_wantedPart_26 : decode cX4_wantedPart 26 = .ok (.istore 5, 2) := by decide +kernel
theorem dX4_wantedPart_28 : decode cX4_wantedPart 28 = .ok (.iload 5, 2) := by decide +kernel
theorem dX4_wantedPart_30 : decode cX4_wantedPart 30 = .ok (.iconst 0, 1) := by decide +kernel
theorem dX4_wantedPart_31 : decode cX4_wantedPart 31 = .ok (.aload_n 0, 1) := by decide +kernel
theorem dX4_wantedPart_32 : decode cX4_wantedPart 32 = .ok (.getfield 16, 3) := by decide +kernel
theorem dX4_wantedPart_35 : decode cX4_wantedPart 35 = .ok (.iload_n 1, 1) := by decide +kernel
theorem dX4_wantedPart_36 : decode cX4_wantedPart 36 = .ok (.iconst 3, 1) := by decide +kernel
theorem dX4_wantedPart_37 : decode cX4_wantedPart 37 = .ok (.invokevirtual 50, 3) := by decide +kernel
theorem dX4_wantedPart_40 : decode cX4_wantedPart 40 = .ok (.iconst 1, 1) := by decide +kernel
theorem dX4_wantedPart_41 : decode cX4_wantedPart 41 = .ok (.isub, 1) := by decide +kernel
theorem dX4_wantedPart_42 : decode cX4_wantedPart 42 = .ok (.invokestatic 65, 3) := by decide +kernel
theorem dX4_wantedPart_45 : decode cX4_wantedPart 45 = .ok (.ifCond .eq 24, 3) := by decide +kernel
theorem dX4_wantedPart_48 : decode cX4_wantedPart 48 = .ok (.iload_n 3, 1) := by decide +kernel
theorem dX4_wantedPart_49 : decode cX4_wantedPart 49 = .ok (.aload_n 0, 1) := by decide +kernel
theorem dX4_wantedPart_50 : decode cX4_wantedPart 50 = .ok (.getfield 16, 3) := by decide +kernel
theorem dX4_wantedPart_53 : decode cX4_wantedPart 53 = .ok (.iload_n 1, 1) := by decide +kernel
theorem dX4_wantedPart_54 : decode cX4_wantedPart 54 = .ok (.bipush 15, 2) := by decide +kernel
theorem dX4_wantedPart_56 : decode cX4_wantedPart 56 = .ok (.invokevirtual 50, 3) := by decide +kernel
theorem dX4_wantedPart_59 : decode cX4_wantedPart 59 = .ok (.iload 5, 2) := by decide +kernel
theorem dX4_wantedPart_61 : decode cX4_wantedPart 61 = .ok (.ishr, 1) := by decide +kernel
theorem dX4_wantedPart_62 : decode cX4_wantedPart 62 = .ok (.iconst 1, 1) := by decide +kernel
theorem dX4_wantedPart_63 : decode cX4_wantedPart 63 = .ok (.iand, 1) := by decide +kernel
theorem dX4_wantedPart_64 : decode cX4_wantedPart 64 = .ok (.iload 4, 2) := by decide +kernel
theorem dX4_wantedPart_66 : decode cX4_wantedPart 66 = .ok (.ishl, 1) := by decide +kernel
theorem dX4_wantedPart_67 : decode cX4_wantedPart 67 = .ok (.ior, 1) := by decide +kernel
theorem dX4_wantedPart_68 : decode cX4_wantedPart 68 = .ok (.istore_n 3, 1) := by decide +kernel
theorem dX4_wantedPart_69 : decode cX4_wantedPart 69 = .ok (.iinc 4 1, 3) := by decide +kernel
theorem dX4_wantedPart_72 : decode cX4_wantedPart 72 = .ok (.goto (-67), 3) := by decide +kernel
theorem dX4_wantedPart_75 : decode cX4_wantedPart 75 = .ok (.iload_n 3, 1) := by decide +kernel
theorem dX4_wantedPart_76 : decode cX4_wantedPart 76 = .ok (.ireturn, 1) := by decide +kernel
