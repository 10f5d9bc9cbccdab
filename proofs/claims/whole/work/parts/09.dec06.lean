theorem dX5_rows_0 : decode cX5_rows 0 = .ok (.aload_n 0, 1) := by decide +kernel
theorem dX5_rows_1 : decode cX5_rows 1 = .ok (.getfield 26, 3) := by decide +kernel
theorem dX5_rows_4 : decode cX5_rows 4 = .ok (.ireturn, 1) := by decide +kernel
theorem dX5_has_0 : decode cX5_has 0 = .ok (.iload_n 1, 1) := by decide +kernel
theorem dX5_has_1 : decode cX5_has 1 = .ok (.ifCond .lt 15, 3) := by decide +kernel
theorem dX5_has_4 : decode cX5_has 4 = .ok (.iload_n 1, 1) := by decide +kernel
theorem dX5_has_5 : decode cX5_has 5 = .ok (.aload_n 0, 1) := by decide +kernel
theorem dX5_has_6 : decode cX5_has 6 = .ok (.getfield 26, 3) := by decide +kernel
theorem dX5_has_9 : decode cX5_has 9 = .ok (.if_icmp .ge 7, 3) := by decide +kernel
theorem dX5_has_12 : decode cX5_has 12 = .ok (.iconst 1, 1) := by decide +kernel
theorem dX5_has_13 : decode cX5_has 13 = .ok (.goto 4, 3) := by decide +kernel
theorem dX5_has_16 : decode cX5_has 16 = .ok (.iconst 0, 1) := by decide +kernel
theorem dX5_has_17 : decode cX5_has 17 = .ok (.ireturn, 1) := by decide +kernel
theorem dX5_at_0 : decode cX5_at 0 = .ok (.iload_n 1, 1) := by decide +kernel
theorem dX5_at_1 : decode cX5_at 1 = .ok (.ifCond .lt 23, 3) := by decide +kernel
theorem dX5_at_4 : decode cX5_at 4 = .ok (.iload_n 1, 1) := by decide +kernel
theorem dX5_at_5 : decode cX5_at 5 = .ok (.aload_n 0, 1) := by decide +kernel
theorem dX5_at_6 : decode cX5_at 6 = .ok (.getfield 26, 3) := by decide +kernel
theorem dX5_at_9 : decode cX5_at 9 = .ok (.if_icmp .ge 15, 3) := by decide +kernel
theorem dX5_at_12 : decode cX5_at 12 = .ok (.iload_n 2, 1) := by decide +kernel
theorem dX5_at_13 : decode cX5_at 13 = .ok (.ifCond .lt 11, 3) := by decide +kernel
theorem dX5_at_16 : decode cX5_at 16 = .ok (.iload_n 2, 1) := by decide +kernel
theorem dX5_at_17 : decode cX5_at 17 = .ok (.aload_n 0, 1) := by decide +kernel
theorem dX5_at_18 : decode cX5_at 18 = .ok (.getfield 19, 3) := by decide +kernel
theorem dX5_at_21 : decode cX5_at 21 = .ok (.if_icmp .lt 5, 3) := by decide +kernel
theorem dX5_at_24 : decode cX5_at 24 = .ok (.iconst 0, 1) := by decide +kernel
theorem dX5_at_25 : decode cX5_at 25 = .ok (.ireturn, 1) := by decide +kernel
theorem dX5_at_26 : decode cX5_at 26 = .ok (.iload_n 1, 1) := by decide +kernel
theorem dX5_at_27 : decode cX5_at 27 = .ok (.aload_n 0, 1) := by decide +kernel
theorem dX5_at_28 : decode cX5_at 28 = .ok (.getfield 19, 3) := by decide +kernel
theorem dX5_at_31 : decode cX5_at 31 = .ok (.imul, 1) := by decide +kernel
theorem dX5_at_32 : decode cX5_at 32 = .ok (.iload_n 2, 1) := by decide +kernel
theorem dX5_at_33 : decode cX5_at 33 = .ok (.iadd, 1) := by decide +kernel
theorem dX5_at_34 : decode cX5_at 34 = .ok (.istore_n 3, 1) := by decide +kernel
theorem dX5_at_35 : decode cX5_at 35 = .ok (.iload_n 3, 1) := by decide +kernel
theorem dX5_at_36 : decode cX5_at 36 = .ok (.aload_n 0, 1) := by decide +kernel
theorem dX5_at_37 : decode cX5_at 37 = .ok (.getfield 22, 3) := by decide +kernel
theorem dX5_at_40 : decode cX5_at 40 = .ok (.arraylength, 1) := by decide +kernel
theorem dX5_at_41 : decode cX5_at 41 = .ok (.if_icmp .ge 12, 3) := by decide +kernel
theorem dX5_at_44 : decode cX5_at 44 = .ok (.aload_n 0, 1) := by decide +kernel
theorem dX5_at_45 : decode cX5_at 45 = .ok (.getfield 22, 3) := by decide +kernel
theorem dX5_at_48 : decode cX5_at 48 = .ok (.iload_n 3, 1) := by decide +kernel
theorem dX5_at_49 : decode cX5_at 49 = .ok (.iaload, 1) := by decide +kernel
theorem dX5_at_50 : decode cX5_at 50 = .ok (.goto 4, 3) := by decide +kernel
theorem dX5_at_53 : decode cX5_at 53 = .ok (.iconst 0, 1) := by decide +kernel
theorem dX5_at_54 : decode cX5_at 54 = .ok (.ireturn, 1) := by decide +kernel
theorem dX5_set_0 : decode cX5_set 0 = .ok (.iload_n 1, 1) := by decide +kernel
theorem dX5_set_1 : decode cX5_set 1 = .ok (.ifCond .lt 23, 3) := by decide +kernel
theorem dX5_set_4 : decode cX5_set 4 = .ok (.iload_n 1, 1) := by decide +kernel
theorem dX5_set_5 : decode cX5_set 5 = .ok (.aload_n 0, 1) := by decide +kernel
theorem dX5_set_6 : decode cX5_set 6 = .ok (.getfield 26, 3) := by decide +kernel
theorem dX5_set_9 : decode cX5_set 9 = .ok (.if_icmp .ge 15, 3) := by decide +kernel
theorem dX5_set_12 : decode cX5_set 12 = .ok (.iload_n 2, 1) := by decide +kernel
theorem dX5_set_13 : decode cX5_set 13 = .ok (.ifCond .lt 11, 3) := by decide +kernel
theorem dX5_set_16 : decode cX5_set 16 = .ok (.iload_n 2, 1) := by decide +kernel
theorem dX5_set_17 : decode cX5_set 17 = .ok (.aload_n 0, 1) := by decide +kernel
theorem dX5_set_18 : decode cX5_set 18 = .ok (.getfield 19, 3) := by decide +kernel
theorem dX5_set_21 : decode cX5_set 21 = .ok (.if_icmp .lt 4, 3) := by decide +kernel
theorem dX5_set_24 : decode cX5_set 24 = .ok (.return_, 1) := by decide +kernel
theorem dX5_set_25 : decode cX5_set 25 = .ok (.iload_n 1, 1) := by decide +kernel
theorem dX5_set_26 : decode cX5_set 26 = .ok (.aload_n 0, 1) := by decide +kernel
theorem dX5_set_27 : decode cX5_set 27 = .ok (.getfield 19, 3) := by decide +kernel
theorem dX5_set_30 : decode cX5_set 30 = .ok (.imul, 1) := by decide +kernel
theorem dX5_set_31 : decode cX5_set 31 = .ok (.iload_n 2, 1) := by decide +kernel
theorem dX5_set_32 : decode cX5_set 32 = .ok (.iadd, 1) := by decide +kernel
theorem dX5_set_33 : decode cX5_set 33 = .ok (.istore 4, 2) := by decide +kernel
theorem dX5_set_35 : decode cX5_set 35 = .ok (.iload 4, 2) := by decide +kernel
theorem dX5_set_37 : decode cX5_set 37 = .ok (.aload_n 0, 1) := by decide +kernel
theorem dX5_set_38 : decode cX5_set 38 = .ok (.getfield 22, 3) := by decide +kernel
theorem dX5_set_41 : decode cX5_set 41 = .ok (.arraylength, 1) := by decide +kernel
theorem dX5_set_42 : decode cX5_set 42 = .ok (.if_icmp .ge 11, 3) := by decide +kernel
theorem dX5_set_45 : decode cX5_set 45 = .ok (.aload_n 0, 1) := by decide +kernel
theorem dX5_set_46 : decode cX5_set 46 = .ok (.getfield 22, 3) := by decide +kernel
theorem dX5_set_49 : decode cX5_set 49 = .ok (.iload 4, 2) := by decide +kernel
theorem dX5_set_51 : decode cX5_set 51 = .ok (.iload_n 3, 1) := by decide +kernel
theorem dX5_set_52 : decode cX5_set 52 = .ok (.iastore, 1) := by decide +kernel
theorem dX5_set_53 : decode cX5_set 53 = .ok (.return_, 1) := by decide +kernel
theorem dX5_addRow_0 : decode cX5_addRow 0 = .ok (.aload_n 0, 1) := by decide +kernel
theorem dX5_addRow_1 : decode cX5_addRow 1 = .ok (.getfield 26, 3) := by decide +kernel
theorem dX5_addRow_4 : decode cX5_addRow 4 = .ok (.aload_n 0, 1) := by decide +kernel
theorem dX5_addRow_5 : decode cX5_addRow 5 = .ok (.getfield 13, 3) := by decide +kernel
theorem dX5_addRow_8 : decode cX5_addRow 8 = .ok (.if_icmp .lt 5, 3) := by decide +kernel
theorem dX5_addRow_11 : decode cX5_addRow 11 = .ok (.iconst (-1), 1) := by decide +kernel
theorem dX5_addRow_12 : decode cX5_addRow 12 = .ok (.ireturn, 1) := by decide +kernel
theorem dX5_addRow_13 : decode cX5_addRow 13 = .ok (.aload_n 0, 1) := by decide +kernel
theorem dX5_addRow_14 : decode cX5_addRow 14 = .ok (.dup, 1) := by decide +kernel
theorem dX5_addRow_15 : decode cX5_addRow 15 = .ok (.getfield 26, 3) := by decide +kernel
theorem dX5_addRow_18 : decode cX5_addRow 18 = .ok (.iconst 1, 1) := by decide +kernel
theorem dX5_addRow_19 : decode cX5_addRow 19 = .ok (.iadd, 1) := by decide +kernel
theorem dX5_addRow_20 : decode cX5_addRow 20 = .ok (.putfield 26, 3) := by decide +kernel
theorem dX5_addRow_23 : decode cX5_addRow 23 = .ok (.iconst 0, 1) := by decide +kernel
theorem dX5_addRow_24 : decode cX5_addRow 24 = .ok (.istore_n 1, 1) := by decide +kernel
theorem dX5_addRow_25 : decode cX5_addRow 25 = .ok (.iload_n 1, 1) := by decide +kernel
theorem dX5_addRow_26 : decode cX5_addRow 26 = .ok (.aload_n 0, 1) := by decide +kernel
theorem dX5_addRow_27 : decode cX5_addRow 27 = .ok (.getfield 19, 3) := by decide +kernel
theorem dX5_addRow_30 : decode cX5_addRow 30 = .ok (.if_icmp .ge 21, 3) := by decide +kernel
theorem dX5_addRow_33 : decode cX5_addRow 33 = .ok (.aload_n 0, 1) := by decide +kernel
theorem dX5_addRow_34 : decode cX5_addRow 34 = .ok (.aload_n 0, 1) := by decide +kernel
theorem dX5_addRow_35 : decode cX5_addRow 35 = .ok (.getfield 26, 3) := by decide +kernel
theorem dX5_addRow_38 : decode cX5_addRow 38 = .ok (.iconst 1, 1) := by decide +kernel
theorem dX5_addRow_39 : decode cX5_addRow 39 = .ok (.isub, 1) := by decide +kernel
theorem dX5_addRow_40 : decode cX5_addRow 40 = .ok (.iload_n 1, 1) := by decide +kernel
theorem dX5_addRow_41 : decode cX5_addRow 41 = .ok (.iconst 0, 1) := by decide +kernel
theorem dX5_addRow_42 : decode cX5_addRow 42 = .ok (.invokevirtual 29, 3) := by decide +kernel
theorem dX5_addRow_45 : decode cX5_addRow 45 = .ok (.iinc 1 1, 3) := by decide +kernel
theorem dX5_addRow_48 : decode cX5_addRow 48 = .ok (.goto (-23), 3) := by decide +kernel
theorem dX5_addRow_51 : decode cX5_addRow 51 = .ok (.aload_n 0, 1) := by decide +kernel
theorem dX5_addRow_52 : decode cX5_addRow 52 = .ok (.getfield 26, 3) := by decide +kernel
theorem dX5_addRow_55 : decode cX5_addRow 55 = .ok (.iconst 1, 1) := by decide +kernel
theorem dX5_addRow_56 : decode cX5_addRow 56 = .ok (.isub, 1) := by decide +kernel
theorem dX5_addRow_57 : decode cX5_addRow 57 = .ok (.ireturn, 1) := by decide +kernel
theorem dX5_dropFirst_0 : decode cX5_dropFirst 0 = .ok (.aload_n 0, 1) := by decide +kernel
theorem dX5_dropFirst_1 : decode cX5_dropFirst 1 = .ok (.getfield 26, 3) := by decide +kernel
theorem dX5_dropFirst_4 : decode cX5_dropFirst 4 = .ok (.iconst 1, 1) := by decide +kernel
theorem dX5_dropFirst_5 : decode cX5_dropFirst 5 = .ok (.isub, 1) := by decide +kernel
theorem dX5_dropFirst_6 : decode cX5_dropFirst 6 = .ok (.aload_n 0, 1) := by decide +kernel
theorem dX5_dropFirst_7 : decode cX5_dropFirst 7 = .ok (.getfield 19, 3) := by decide +kernel
theorem dX5_dropFirst_10 : decode cX5_dropFirst 10 = .ok (.imul, 1) := by decide +kernel
theorem dX5_dropFirst_11 : decode cX5_dropFirst 11 = .ok (.istore_n 1, 1) := by decide +kernel
theorem dX5_dropFirst_12 : decode cX5_dropFirst 12 = .ok (.iload_n 1, 1) := by decide +kernel
theorem dX5_dropFirst_13 : decode cX5_dropFirst 13 = .ok (.ifCond .lt 44, 3) := by decide +kernel
theorem dX5_dropFirst_16 : decode cX5_dropFirst 16 = .ok (.aload_n 0, 1) := by decide +kernel
theorem dX5_dropFirst_17 : decode cX5_dropFirst 17 = .ok (.getfield 19, 3) := by decide +kernel
theorem dX5_dropFirst_20 : decode cX5_dropFirst 20 = .ok (.iload_n 1, 1) := by decide +kernel
theorem dX5_dropFirst_21 : decode cX5_dropFirst 21 = .ok (.iadd, 1) := by decide +kernel
theorem dX5_dropFirst_22 : decode cX5_dropFirst 22 = .ok (.aload_n 0, 1) := by decide +kernel
theorem dX5_dropFirst_23 : decode cX5_dropFirst 23 = .ok (.getfield 22, 3) := by decide +kernel
theorem dX5_dropFirst_26 : decode cX5_dropFirst 26 = .ok (.arraylength, 1) := by decide +kernel
theorem dX5_dropFirst_27 : decode cX5_dropFirst 27 = .ok (.if_icmp .gt 30, 3) := by decide +kernel
theorem dX5_dropFirst_30 : decode cX5_dropFirst 30 = .ok (.aload_n 0, 1) := by decide +kernel
theorem dX5_dropFirst_31 : decode cX5_dropFirst 31 = .ok (.getfield 22, 3) := by decide +kernel
theorem dX5_dropFirst_34 : decode cX5_dropFirst 34 = .ok (.aload_n 0, 1) := by decide +kernel
theorem dX5_dropFirst_35 : decode cX5_dropFirst 35 = .ok (.getfield 19, 3) := by decide +kernel
theorem dX5_dropFirst_38 : decode cX5_dropFirst 38 = .ok (.aload_n 0, 1) := by decide +kernel
theorem dX5_dropFirst_39 : decode cX5_dropFirst 39 = .ok (.getfield 22, 3) := by decide +kernel
theorem dX5_dropFirst_42 : decode cX5_dropFirst 42 = .ok (.iconst 0, 1) := by decide +kernel
theorem dX5_dropFirst_43 : decode cX5_dropFirst 43 = .ok (.iload_n 1, 1) := by decide +kernel
theorem dX5_dropFirst_44 : decode cX5_dropFirst 44 = .ok (.invokestatic 33, 3) := by decide +kernel
theorem dX5_dropFirst_47 : decode cX5_dropFirst 47 = .ok (.aload_n 0, 1) := by decide +kernel
theorem dX5_dropFirst_48 : decode cX5_dropFirst 48 = .ok (.dup, 1) := by decide +kernel
theorem dX5_dropFirst_49 : decode cX5_dropFirst 49 = .ok (.getfield 26, 3) := by decide +kernel
theorem dX5_dropFirst_52 : decode cX5_dropFirst 52 = .ok (.iconst 1, 1) := by decide +kernel
theorem dX5_dropFirst_53 : decode cX5_dropFirst 53 = .ok (.isub, 1) := by decide +kernel
theorem dX5_dropFirst_54 : decode cX5_dropFirst 54 = .ok (.putfield 26, 3) := by decide +kernel
theorem dX5_dropFirst_57 : decode cX5_dropFirst 57 = .ok (.return_, 1) := by decide +kernel
theorem dX5_dropLast_0 : decode cX5_dropLast 0 = .ok (.aload_n 0, 1) := by decide +kernel
theorem dX5_dropLast_1 : decode cX5_dropLast 1 = .ok (.getfield 26, 3) := by decide +kernel
theorem dX5_dropLast_4 : decode cX5_dropLast 4 = .ok (.ifCond .le 13, 3) := by decide +kernel
theorem dX5_dropLast_7 : decode cX5_dropLast 7 = .ok (.aload_n 0, 1) := by decide +kernel
theorem dX5_dropLast_8 : decode cX5_dropLast 8 = .ok (.dup, 1) := by decide +kernel
theorem dX5_dropLast_9 : decode cX5_dropLast 9 = .ok (.getfield 26, 3) := by decide +kernel
theorem dX5_dropLast_12 : decode cX5_dropLast 12 = .ok (.iconst 1, 1) := by decide +kernel
theorem dX5_dropLast_13 : decode cX5_dropLast 13 = .ok (.isub, 1) := by decide +kernel
theorem dX5_dropLast_14 : decode cX5_dropLast 14 = .ok (.putfield 26, 3) := by decide +kernel
theorem dX5_dropLast_17 : decode cX5_dropLast 17 = .ok (.return_, 1) := by decide +kernel
theorem dX5_clear_0 : decode cX5_clear 0 = .ok (.aload_n 0, 1) := by decide +kernel
theorem dX5_clear_1 : decode cX5_clear 1 = .ok (.iconst 0, 1) := by decide +kernel
theorem dX5_clear_2 : decode cX5_clear 2 = .ok (.putfield 26, 3) := by decide +kernel
theorem dX5_clear_5 : decode cX5_clear 5 = .ok (.return_, 1) := by decide +kernel
theorem dX5_copyFrom_0 : decode cX5_copyFrom 0 = .ok (.aload_n 1, 1) := by decide +kernel
theorem dX5_copyFrom_1 : decode cX5_copyFrom 1 = .ok (.getfield 26, 3) := by decide +kernel
theorem dX5_copyFrom_4 : decode cX5_copyFrom 4 = .ok (.aload_n 0, 1) := by decide +kernel
theorem dX5_copyFrom_5 : decode cX5_copyFrom 5 = .ok (.getfield 19, 3) := by decide +kernel
theorem dX5_copyFrom_8 : decode cX5_copyFrom 8 = .ok (.imul, 1) := by decide +kernel
theorem dX5_copyFrom_9 : decode cX5_copyFrom 9 = .ok (.istore_n 2, 1) := by decide +kernel
theorem dX5_copyFrom_10 : decode cX5_copyFrom 10 = .ok (.iload_n 2, 1) := by decide +kernel
theorem dX5_copyFrom_11 : decode cX5_copyFrom 11 = .ok (.aload_n 0, 1) := by decide +kernel
theorem dX5_copyFrom_12 : decode cX5_copyFrom 12 = .ok (.getfield 22, 3) := by decide +kernel
theorem dX5_copyFrom_15 : decode cX5_copyFrom 15 = .ok (.arraylength, 1) := by decide +kernel
theorem dX5_copyFrom_16 : decode cX5_copyFrom 16 = .ok (.if_icmp .gt 34, 3) := by decide +kernel
theorem dX5_copyFrom_19 : decode cX5_copyFrom 19 = .ok (.iload_n 2, 1) := by decide +kernel
theorem dX5_copyFrom_20 : decode cX5_copyFrom 20 = .ok (.aload_n 1, 1) := by decide +kernel
theorem dX5_copyFrom_21 : decode cX5_copyFrom 21 = .ok (.getfield 22, 3) := by decide +kernel
theorem dX5_copyFrom_24 : decode cX5_copyFrom 24 = .ok (.arraylength, 1) := by decide +kernel
theorem dX5_copyFrom_25 : decode cX5_copyFrom 25 = .ok (.if_icmp .gt 25, 3) := by decide +kernel
theorem dX5_copyFrom_28 : decode cX5_copyFrom 28 = .ok (.aload_n 1, 1) := by decide +kernel
theorem dX5_copyFrom_29 : decode cX5_copyFrom 29 = .ok (.getfield 22, 3) := by decide +kernel
theorem dX5_copyFrom_32 : decode cX5_copyFrom 32 = .ok (.iconst 0, 1) := by decide +kernel
theorem dX5_copyFrom_33 : decode cX5_copyFrom 33 = .ok (.aload_n 0, 1) := by decide +kernel
theorem dX5_copyFrom_34 : decode cX5_copyFrom 34 = .ok (.getfield 22, 3) := by decide +kernel
theorem dX5_copyFrom_37 : decode cX5_copyFrom 37 = .ok (.iconst 0, 1) := by decide +kernel
theorem dX5_copyFrom_38 : decode cX5_copyFrom 38 = .ok (.iload_n 2, 1) := by decide +kernel
theorem dX5_copyFrom_39 : decode cX5_copyFrom 39 = .ok (.invokestatic 33, 3) := by decide +kernel
theorem dX5_copyFrom_42 : decode cX5_copyFrom 42 = .ok (.aload_n 0, 1) := by decide +kernel
theorem dX5_copyFrom_43 : decode cX5_copyFrom 43 = .ok (.aload_n 1, 1) := by decide +kernel
theorem dX5_copyFrom_44 : decode cX5_copyFrom 44 = .ok (.getfield 26, 3) := by decide +kernel
theorem dX5_copyFrom_47 : decode cX5_copyFrom 47 = .ok (.putfield 26, 3) := by decide +kernel
theorem dX5_copyFrom_50 : decode cX5_copyFrom 50 = .ok (.return_, 1) := by decide +kernel
