theorem d_C_init_0 : decode (xC k_C_init) 0 = .ok (.aload_n 0, 1) := by decide +kernel
theorem d_C_init_1 : decode (xC k_C_init) 1 = .ok (.invokespecial 3, 3) := by decide +kernel
theorem d_C_init_4 : decode (xC k_C_init) 4 = .ok (.aload_n 0, 1) := by decide +kernel
theorem d_C_init_5 : decode (xC k_C_init) 5 = .ok (.bipush 6, 2) := by decide +kernel
theorem d_C_init_7 : decode (xC k_C_init) 7 = .ok (.anewarray 9, 3) := by decide +kernel
theorem d_C_init_10 : decode (xC k_C_init) 10 = .ok (.putfield 11, 3) := by decide +kernel
theorem d_C_init_13 : decode (xC k_C_init) 13 = .ok (.aload_n 0, 1) := by decide +kernel
theorem d_C_init_14 : decode (xC k_C_init) 14 = .ok (.new 17, 3) := by decide +kernel
theorem d_C_init_17 : decode (xC k_C_init) 17 = .ok (.dup, 1) := by decide +kernel
theorem d_C_init_18 : decode (xC k_C_init) 18 = .ok (.invokespecial 19, 3) := by decide +kernel
theorem d_C_init_21 : decode (xC k_C_init) 21 = .ok (.putfield 20, 3) := by decide +kernel
theorem d_C_init_24 : decode (xC k_C_init) 24 = .ok (.aload_n 0, 1) := by decide +kernel
theorem d_C_init_25 : decode (xC k_C_init) 25 = .ok (.iconst 0, 1) := by decide +kernel
theorem d_C_init_26 : decode (xC k_C_init) 26 = .ok (.putfield 24, 3) := by decide +kernel
theorem d_C_init_29 : decode (xC k_C_init) 29 = .ok (.return_, 1) := by decide +kernel
theorem d_C_add_0 : decode (xC k_C_add) 0 = .ok (.aload_n 0, 1) := by decide +kernel
theorem d_C_add_1 : decode (xC k_C_add) 1 = .ok (.getfield 24, 3) := by decide +kernel
theorem d_C_add_4 : decode (xC k_C_add) 4 = .ok (.bipush 6, 2) := by decide +kernel
theorem d_C_add_6 : decode (xC k_C_add) 6 = .ok (.if_icmp .ge 38, 3) := by decide +kernel
theorem d_C_add_9 : decode (xC k_C_add) 9 = .ok (.aload_n 0, 1) := by decide +kernel
theorem d_C_add_10 : decode (xC k_C_add) 10 = .ok (.getfield 11, 3) := by decide +kernel
theorem d_C_add_13 : decode (xC k_C_add) 13 = .ok (.aload_n 0, 1) := by decide +kernel
theorem d_C_add_14 : decode (xC k_C_add) 14 = .ok (.getfield 24, 3) := by decide +kernel
theorem d_C_add_17 : decode (xC k_C_add) 17 = .ok (.aload_n 1, 1) := by decide +kernel
theorem d_C_add_18 : decode (xC k_C_add) 18 = .ok (.aastore, 1) := by decide +kernel
theorem d_C_add_19 : decode (xC k_C_add) 19 = .ok (.aload_n 0, 1) := by decide +kernel
theorem d_C_add_20 : decode (xC k_C_add) 20 = .ok (.dup, 1) := by decide +kernel
theorem d_C_add_21 : decode (xC k_C_add) 21 = .ok (.getfield 24, 3) := by decide +kernel
theorem d_C_add_24 : decode (xC k_C_add) 24 = .ok (.iconst 1, 1) := by decide +kernel
theorem d_C_add_25 : decode (xC k_C_add) 25 = .ok (.iadd, 1) := by decide +kernel
theorem d_C_add_26 : decode (xC k_C_add) 26 = .ok (.putfield 24, 3) := by decide +kernel
theorem d_C_add_29 : decode (xC k_C_add) 29 = .ok (.aload_n 0, 1) := by decide +kernel
theorem d_C_add_30 : decode (xC k_C_add) 30 = .ok (.aload_n 1, 1) := by decide +kernel
theorem d_C_add_31 : decode (xC k_C_add) 31 = .ok (.iconst 0, 1) := by decide +kernel
theorem d_C_add_32 : decode (xC k_C_add) 32 = .ok (.invokevirtual 28, 3) := by decide +kernel
theorem d_C_add_35 : decode (xC k_C_add) 35 = .ok (.aload_n 0, 1) := by decide +kernel
theorem d_C_add_36 : decode (xC k_C_add) 36 = .ok (.getfield 20, 3) := by decide +kernel
theorem d_C_add_39 : decode (xC k_C_add) 39 = .ok (.bipush 59, 2) := by decide +kernel
theorem d_C_add_41 : decode (xC k_C_add) 41 = .ok (.invokevirtual 32, 3) := by decide +kernel
theorem d_C_add_44 : decode (xC k_C_add) 44 = .ok (.return_, 1) := by decide +kernel
theorem d_C_termAt_0 : decode (xC k_C_termAt) 0 = .ok (.iload_n 1, 1) := by decide +kernel
theorem d_C_termAt_1 : decode (xC k_C_termAt) 1 = .ok (.ifCond .lt 18, 3) := by decide +kernel
theorem d_C_termAt_4 : decode (xC k_C_termAt) 4 = .ok (.iload_n 1, 1) := by decide +kernel
theorem d_C_termAt_5 : decode (xC k_C_termAt) 5 = .ok (.bipush 6, 2) := by decide +kernel
theorem d_C_termAt_7 : decode (xC k_C_termAt) 7 = .ok (.if_icmp .ge 12, 3) := by decide +kernel
theorem d_C_termAt_10 : decode (xC k_C_termAt) 10 = .ok (.aload_n 0, 1) := by decide +kernel
theorem d_C_termAt_11 : decode (xC k_C_termAt) 11 = .ok (.getfield 11, 3) := by decide +kernel
theorem d_C_termAt_14 : decode (xC k_C_termAt) 14 = .ok (.iload_n 1, 1) := by decide +kernel
theorem d_C_termAt_15 : decode (xC k_C_termAt) 15 = .ok (.aaload, 1) := by decide +kernel
theorem d_C_termAt_16 : decode (xC k_C_termAt) 16 = .ok (.goto 4, 3) := by decide +kernel
theorem d_C_termAt_19 : decode (xC k_C_termAt) 19 = .ok (.aconst_null, 1) := by decide +kernel
theorem d_C_termAt_20 : decode (xC k_C_termAt) 20 = .ok (.areturn, 1) := by decide +kernel
theorem d_C_write_0 : decode (xC k_C_write) 0 = .ok (.aload_n 1, 1) := by decide +kernel
theorem d_C_write_1 : decode (xC k_C_write) 1 = .ok (.ifnull 9, 3) := by decide +kernel
theorem d_C_write_4 : decode (xC k_C_write) 4 = .ok (.iload_n 2, 1) := by decide +kernel
theorem d_C_write_5 : decode (xC k_C_write) 5 = .ok (.bipush 40, 2) := by decide +kernel
theorem d_C_write_7 : decode (xC k_C_write) 7 = .ok (.if_icmp .le 4, 3) := by decide +kernel
theorem d_C_write_10 : decode (xC k_C_write) 10 = .ok (.return_, 1) := by decide +kernel
theorem d_C_write_11 : decode (xC k_C_write) 11 = .ok (.aload_n 1, 1) := by decide +kernel
theorem d_C_write_12 : decode (xC k_C_write) 12 = .ok (.getfield 36, 3) := by decide +kernel
theorem d_C_write_15 : decode (xC k_C_write) 15 = .ok (.bipush 33, 2) := by decide +kernel
theorem d_C_write_17 : decode (xC k_C_write) 17 = .ok (.if_icmp .ne 26, 3) := by decide +kernel
theorem d_C_write_20 : decode (xC k_C_write) 20 = .ok (.aload_n 0, 1) := by decide +kernel
theorem d_C_write_21 : decode (xC k_C_write) 21 = .ok (.getfield 20, 3) := by decide +kernel
theorem d_C_write_24 : decode (xC k_C_write) 24 = .ok (.bipush 33, 2) := by decide +kernel
theorem d_C_write_26 : decode (xC k_C_write) 26 = .ok (.invokevirtual 32, 3) := by decide +kernel
theorem d_C_write_29 : decode (xC k_C_write) 29 = .ok (.aload_n 0, 1) := by decide +kernel
theorem d_C_write_30 : decode (xC k_C_write) 30 = .ok (.aload_n 1, 1) := by decide +kernel
theorem d_C_write_31 : decode (xC k_C_write) 31 = .ok (.getfield 39, 3) := by decide +kernel
theorem d_C_write_34 : decode (xC k_C_write) 34 = .ok (.iload_n 2, 1) := by decide +kernel
theorem d_C_write_35 : decode (xC k_C_write) 35 = .ok (.iconst 1, 1) := by decide +kernel
theorem d_C_write_36 : decode (xC k_C_write) 36 = .ok (.iadd, 1) := by decide +kernel
theorem d_C_write_37 : decode (xC k_C_write) 37 = .ok (.invokevirtual 28, 3) := by decide +kernel
theorem d_C_write_40 : decode (xC k_C_write) 40 = .ok (.goto 63, 3) := by decide +kernel
theorem d_C_write_43 : decode (xC k_C_write) 43 = .ok (.aload_n 1, 1) := by decide +kernel
theorem d_C_write_44 : decode (xC k_C_write) 44 = .ok (.getfield 36, 3) := by decide +kernel
theorem d_C_write_47 : decode (xC k_C_write) 47 = .ok (.bipush 124, 2) := by decide +kernel
theorem d_C_write_49 : decode (xC k_C_write) 49 = .ok (.if_icmp .eq 12, 3) := by decide +kernel
theorem d_C_write_52 : decode (xC k_C_write) 52 = .ok (.aload_n 1, 1) := by decide +kernel
theorem d_C_write_53 : decode (xC k_C_write) 53 = .ok (.getfield 36, 3) := by decide +kernel
theorem d_C_write_56 : decode (xC k_C_write) 56 = .ok (.bipush 38, 2) := by decide +kernel
theorem d_C_write_58 : decode (xC k_C_write) 58 = .ok (.if_icmp .ne 12, 3) := by decide +kernel
theorem d_C_write_61 : decode (xC k_C_write) 61 = .ok (.aload_n 0, 1) := by decide +kernel
theorem d_C_write_62 : decode (xC k_C_write) 62 = .ok (.aload_n 1, 1) := by decide +kernel
theorem d_C_write_63 : decode (xC k_C_write) 63 = .ok (.iload_n 2, 1) := by decide +kernel
theorem d_C_write_64 : decode (xC k_C_write) 64 = .ok (.invokevirtual 43, 3) := by decide +kernel
theorem d_C_write_67 : decode (xC k_C_write) 67 = .ok (.goto 36, 3) := by decide +kernel
theorem d_C_write_70 : decode (xC k_C_write) 70 = .ok (.aload_n 0, 1) := by decide +kernel
theorem d_C_write_71 : decode (xC k_C_write) 71 = .ok (.getfield 20, 3) := by decide +kernel
theorem d_C_write_74 : decode (xC k_C_write) 74 = .ok (.aload_n 1, 1) := by decide +kernel
theorem d_C_write_75 : decode (xC k_C_write) 75 = .ok (.getfield 46, 3) := by decide +kernel
theorem d_C_write_78 : decode (xC k_C_write) 78 = .ok (.invokevirtual 32, 3) := by decide +kernel
theorem d_C_write_81 : decode (xC k_C_write) 81 = .ok (.aload_n 0, 1) := by decide +kernel
theorem d_C_write_82 : decode (xC k_C_write) 82 = .ok (.getfield 20, 3) := by decide +kernel
theorem d_C_write_85 : decode (xC k_C_write) 85 = .ok (.aload_n 1, 1) := by decide +kernel
theorem d_C_write_86 : decode (xC k_C_write) 86 = .ok (.getfield 36, 3) := by decide +kernel
theorem d_C_write_89 : decode (xC k_C_write) 89 = .ok (.invokevirtual 32, 3) := by decide +kernel
theorem d_C_write_92 : decode (xC k_C_write) 92 = .ok (.aload_n 0, 1) := by decide +kernel
theorem d_C_write_93 : decode (xC k_C_write) 93 = .ok (.getfield 20, 3) := by decide +kernel
theorem d_C_write_96 : decode (xC k_C_write) 96 = .ok (.aload_n 1, 1) := by decide +kernel
theorem d_C_write_97 : decode (xC k_C_write) 97 = .ok (.getfield 49, 3) := by decide +kernel
theorem d_C_write_100 : decode (xC k_C_write) 100 = .ok (.invokevirtual 52, 3) := by decide +kernel
theorem d_C_write_103 : decode (xC k_C_write) 103 = .ok (.return_, 1) := by decide +kernel
theorem d_C_writeGroup_0 : decode (xC k_C_writeGroup) 0 = .ok (.bipush 40, 2) := by decide +kernel
theorem d_C_writeGroup_2 : decode (xC k_C_writeGroup) 2 = .ok (.istore_n 3, 1) := by decide +kernel
theorem d_C_writeGroup_3 : decode (xC k_C_writeGroup) 3 = .ok (.aload_n 1, 1) := by decide +kernel
theorem d_C_writeGroup_4 : decode (xC k_C_writeGroup) 4 = .ok (.getfield 39, 3) := by decide +kernel
theorem d_C_writeGroup_7 : decode (xC k_C_writeGroup) 7 = .ok (.astore 4, 2) := by decide +kernel
theorem d_C_writeGroup_9 : decode (xC k_C_writeGroup) 9 = .ok (.aload 4, 2) := by decide +kernel
theorem d_C_writeGroup_11 : decode (xC k_C_writeGroup) 11 = .ok (.ifnull 35, 3) := by decide +kernel
theorem d_C_writeGroup_14 : decode (xC k_C_writeGroup) 14 = .ok (.aload_n 0, 1) := by decide +kernel
theorem d_C_writeGroup_15 : decode (xC k_C_writeGroup) 15 = .ok (.getfield 20, 3) := by decide +kernel
theorem d_C_writeGroup_18 : decode (xC k_C_writeGroup) 18 = .ok (.iload_n 3, 1) := by decide +kernel
theorem d_C_writeGroup_19 : decode (xC k_C_writeGroup) 19 = .ok (.invokevirtual 32, 3) := by decide +kernel
theorem d_C_writeGroup_22 : decode (xC k_C_writeGroup) 22 = .ok (.aload_n 0, 1) := by decide +kernel
theorem d_C_writeGroup_23 : decode (xC k_C_writeGroup) 23 = .ok (.aload 4, 2) := by decide +kernel
theorem d_C_writeGroup_25 : decode (xC k_C_writeGroup) 25 = .ok (.iload_n 2, 1) := by decide +kernel
theorem d_C_writeGroup_26 : decode (xC k_C_writeGroup) 26 = .ok (.iconst 1, 1) := by decide +kernel
theorem d_C_writeGroup_27 : decode (xC k_C_writeGroup) 27 = .ok (.iadd, 1) := by decide +kernel
theorem d_C_writeGroup_28 : decode (xC k_C_writeGroup) 28 = .ok (.invokevirtual 28, 3) := by decide +kernel
theorem d_C_writeGroup_31 : decode (xC k_C_writeGroup) 31 = .ok (.aload_n 1, 1) := by decide +kernel
theorem d_C_writeGroup_32 : decode (xC k_C_writeGroup) 32 = .ok (.getfield 36, 3) := by decide +kernel
theorem d_C_writeGroup_35 : decode (xC k_C_writeGroup) 35 = .ok (.istore_n 3, 1) := by decide +kernel
theorem d_C_writeGroup_36 : decode (xC k_C_writeGroup) 36 = .ok (.aload 4, 2) := by decide +kernel
theorem d_C_writeGroup_38 : decode (xC k_C_writeGroup) 38 = .ok (.getfield 55, 3) := by decide +kernel
theorem d_C_writeGroup_41 : decode (xC k_C_writeGroup) 41 = .ok (.astore 4, 2) := by decide +kernel
theorem d_C_writeGroup_43 : decode (xC k_C_writeGroup) 43 = .ok (.goto (-34), 3) := by decide +kernel
theorem d_C_writeGroup_46 : decode (xC k_C_writeGroup) 46 = .ok (.aload_n 0, 1) := by decide +kernel
theorem d_C_writeGroup_47 : decode (xC k_C_writeGroup) 47 = .ok (.getfield 20, 3) := by decide +kernel
theorem d_C_writeGroup_50 : decode (xC k_C_writeGroup) 50 = .ok (.bipush 41, 2) := by decide +kernel
theorem d_C_writeGroup_52 : decode (xC k_C_writeGroup) 52 = .ok (.invokevirtual 32, 3) := by decide +kernel
theorem d_C_writeGroup_55 : decode (xC k_C_writeGroup) 55 = .ok (.return_, 1) := by decide +kernel
theorem d_I_init_0 : decode (xC k_I_init) 0 = .ok (.aload_n 0, 1) := by decide +kernel
theorem d_I_init_1 : decode (xC k_I_init) 1 = .ok (.invokespecial 3, 3) := by decide +kernel
theorem d_I_init_4 : decode (xC k_I_init) 4 = .ok (.aload_n 0, 1) := by decide +kernel
theorem d_I_init_5 : decode (xC k_I_init) 5 = .ok (.bipush 60, 2) := by decide +kernel
theorem d_I_init_7 : decode (xC k_I_init) 7 = .ok (.newarray .int, 2) := by decide +kernel
theorem d_I_init_9 : decode (xC k_I_init) 9 = .ok (.putfield 9, 3) := by decide +kernel
theorem d_I_init_12 : decode (xC k_I_init) 12 = .ok (.aload_n 0, 1) := by decide +kernel
theorem d_I_init_13 : decode (xC k_I_init) 13 = .ok (.bipush 60, 2) := by decide +kernel
theorem d_I_init_15 : decode (xC k_I_init) 15 = .ok (.newarray .int, 2) := by decide +kernel
theorem d_I_init_17 : decode (xC k_I_init) 17 = .ok (.putfield 15, 3) := by decide +kernel
theorem d_I_init_20 : decode (xC k_I_init) 20 = .ok (.aload_n 0, 1) := by decide +kernel
theorem d_I_init_21 : decode (xC k_I_init) 21 = .ok (.iconst 0, 1) := by decide +kernel
theorem d_I_init_22 : decode (xC k_I_init) 22 = .ok (.putfield 18, 3) := by decide +kernel
theorem d_I_init_25 : decode (xC k_I_init) 25 = .ok (.aload_n 0, 1) := by decide +kernel
theorem d_I_init_26 : decode (xC k_I_init) 26 = .ok (.iconst 0, 1) := by decide +kernel
theorem d_I_init_27 : decode (xC k_I_init) 27 = .ok (.putfield 22, 3) := by decide +kernel
theorem d_I_init_30 : decode (xC k_I_init) 30 = .ok (.aload_n 0, 1) := by decide +kernel
theorem d_I_init_31 : decode (xC k_I_init) 31 = .ok (.iconst (-1), 1) := by decide +kernel
theorem d_I_init_32 : decode (xC k_I_init) 32 = .ok (.putfield 25, 3) := by decide +kernel
theorem d_I_init_35 : decode (xC k_I_init) 35 = .ok (.return_, 1) := by decide +kernel
theorem d_I_add_0 : decode (xC k_I_add) 0 = .ok (.aload_n 0, 1) := by decide +kernel
theorem d_I_add_1 : decode (xC k_I_add) 1 = .ok (.getfield 18, 3) := by decide +kernel
theorem d_I_add_4 : decode (xC k_I_add) 4 = .ok (.bipush 60, 2) := by decide +kernel
theorem d_I_add_6 : decode (xC k_I_add) 6 = .ok (.if_icmp .ge 33, 3) := by decide +kernel
theorem d_I_add_9 : decode (xC k_I_add) 9 = .ok (.aload_n 0, 1) := by decide +kernel
theorem d_I_add_10 : decode (xC k_I_add) 10 = .ok (.getfield 9, 3) := by decide +kernel
theorem d_I_add_13 : decode (xC k_I_add) 13 = .ok (.aload_n 0, 1) := by decide +kernel
theorem d_I_add_14 : decode (xC k_I_add) 14 = .ok (.getfield 18, 3) := by decide +kernel
theorem d_I_add_17 : decode (xC k_I_add) 17 = .ok (.iload_n 1, 1) := by decide +kernel
theorem d_I_add_18 : decode (xC k_I_add) 18 = .ok (.iastore, 1) := by decide +kernel
theorem d_I_add_19 : decode (xC k_I_add) 19 = .ok (.aload_n 0, 1) := by decide +kernel
theorem d_I_add_20 : decode (xC k_I_add) 20 = .ok (.getfield 15, 3) := by decide +kernel
theorem d_I_add_23 : decode (xC k_I_add) 23 = .ok (.aload_n 0, 1) := by decide +kernel
theorem d_I_add_24 : decode (xC k_I_add) 24 = .ok (.getfield 18, 3) := by decide +kernel
theorem d_I_add_27 : decode (xC k_I_add) 27 = .ok (.iload_n 2, 1) := by decide +kernel
theorem d_I_add_28 : decode (xC k_I_add) 28 = .ok (.iastore, 1) := by decide +kernel
theorem d_I_add_29 : decode (xC k_I_add) 29 = .ok (.aload_n 0, 1) := by decide +kernel
theorem d_I_add_30 : decode (xC k_I_add) 30 = .ok (.dup, 1) := by decide +kernel
theorem d_I_add_31 : decode (xC k_I_add) 31 = .ok (.getfield 18, 3) := by decide +kernel
theorem d_I_add_34 : decode (xC k_I_add) 34 = .ok (.iconst 1, 1) := by decide +kernel
theorem d_I_add_35 : decode (xC k_I_add) 35 = .ok (.iadd, 1) := by decide +kernel
theorem d_I_add_36 : decode (xC k_I_add) 36 = .ok (.putfield 18, 3) := by decide +kernel
theorem d_I_add_39 : decode (xC k_I_add) 39 = .ok (.return_, 1) := by decide +kernel
theorem d_I_lastHour_0 : decode (xC k_I_lastHour) 0 = .ok (.aload_n 0, 1) := by decide +kernel
theorem d_I_lastHour_1 : decode (xC k_I_lastHour) 1 = .ok (.getfield 18, 3) := by decide +kernel
theorem d_I_lastHour_4 : decode (xC k_I_lastHour) 4 = .ok (.ifCond .le 17, 3) := by decide +kernel
theorem d_I_lastHour_7 : decode (xC k_I_lastHour) 7 = .ok (.aload_n 0, 1) := by decide +kernel
theorem d_I_lastHour_8 : decode (xC k_I_lastHour) 8 = .ok (.getfield 9, 3) := by decide +kernel
theorem d_I_lastHour_11 : decode (xC k_I_lastHour) 11 = .ok (.aload_n 0, 1) := by decide +kernel
theorem d_I_lastHour_12 : decode (xC k_I_lastHour) 12 = .ok (.getfield 18, 3) := by decide +kernel
theorem d_I_lastHour_15 : decode (xC k_I_lastHour) 15 = .ok (.iconst 1, 1) := by decide +kernel
theorem d_I_lastHour_16 : decode (xC k_I_lastHour) 16 = .ok (.isub, 1) := by decide +kernel
theorem d_I_lastHour_17 : decode (xC k_I_lastHour) 17 = .ok (.iaload, 1) := by decide +kernel
theorem d_I_lastHour_18 : decode (xC k_I_lastHour) 18 = .ok (.goto 4, 3) := by decide +kernel
theorem d_I_lastHour_21 : decode (xC k_I_lastHour) 21 = .ok (.iconst (-1), 1) := by decide +kernel
theorem d_I_lastHour_22 : decode (xC k_I_lastHour) 22 = .ok (.ireturn, 1) := by decide +kernel
theorem d_I_valueAt_0 : decode (xC k_I_valueAt) 0 = .ok (.iload_n 1, 1) := by decide +kernel
theorem d_I_valueAt_1 : decode (xC k_I_valueAt) 1 = .ok (.aload_n 0, 1) := by decide +kernel
theorem d_I_valueAt_2 : decode (xC k_I_valueAt) 2 = .ok (.getfield 22, 3) := by decide +kernel
theorem d_I_valueAt_5 : decode (xC k_I_valueAt) 5 = .ok (.if_icmp .lt 13, 3) := by decide +kernel
theorem d_I_valueAt_8 : decode (xC k_I_valueAt) 8 = .ok (.iload_n 1, 1) := by decide +kernel
theorem d_I_valueAt_9 : decode (xC k_I_valueAt) 9 = .ok (.aload_n 0, 1) := by decide +kernel
theorem d_I_valueAt_10 : decode (xC k_I_valueAt) 10 = .ok (.getfield 25, 3) := by decide +kernel
theorem d_I_valueAt_13 : decode (xC k_I_valueAt) 13 = .ok (.if_icmp .gt 5, 3) := by decide +kernel
theorem d_I_valueAt_16 : decode (xC k_I_valueAt) 16 = .ok (.iconst (-1), 1) := by decide +kernel
theorem d_I_valueAt_17 : decode (xC k_I_valueAt) 17 = .ok (.ireturn, 1) := by decide +kernel
theorem d_I_valueAt_18 : decode (xC k_I_valueAt) 18 = .ok (.aload_n 0, 1) := by decide +kernel
theorem d_I_valueAt_19 : decode (xC k_I_valueAt) 19 = .ok (.getfield 18, 3) := by decide +kernel
theorem d_I_valueAt_22 : decode (xC k_I_valueAt) 22 = .ok (.iconst 1, 1) := by decide +kernel
theorem d_I_valueAt_23 : decode (xC k_I_valueAt) 23 = .ok (.isub, 1) := by decide +kernel
theorem d_I_valueAt_24 : decode (xC k_I_valueAt) 24 = .ok (.istore_n 2, 1) := by decide +kernel
theorem d_I_valueAt_25 : decode (xC k_I_valueAt) 25 = .ok (.iload_n 2, 1) := by decide +kernel
theorem d_I_valueAt_26 : decode (xC k_I_valueAt) 26 = .ok (.ifCond .lt 26, 3) := by decide +kernel
theorem d_I_valueAt_29 : decode (xC k_I_valueAt) 29 = .ok (.aload_n 0, 1) := by decide +kernel
theorem d_I_valueAt_30 : decode (xC k_I_valueAt) 30 = .ok (.getfield 9, 3) := by decide +kernel
theorem d_I_valueAt_33 : decode (xC k_I_valueAt) 33 = .ok (.iload_n 2, 1) := by decide +kernel
theorem d_I_valueAt_34 : decode (xC k_I_valueAt) 34 = .ok (.iaload, 1) := by decide +kernel
theorem d_I_valueAt_35 : decode (xC k_I_valueAt) 35 = .ok (.iload_n 1, 1) := by decide +kernel
theorem d_I_valueAt_36 : decode (xC k_I_valueAt) 36 = .ok (.if_icmp .gt 10, 3) := by decide +kernel
theorem d_I_valueAt_39 : decode (xC k_I_valueAt) 39 = .ok (.aload_n 0, 1) := by decide +kernel
theorem d_I_valueAt_40 : decode (xC k_I_valueAt) 40 = .ok (.getfield 15, 3) := by decide +kernel
theorem d_I_valueAt_43 : decode (xC k_I_valueAt) 43 = .ok (.iload_n 2, 1) := by decide +kernel
theorem d_I_valueAt_44 : decode (xC k_I_valueAt) 44 = .ok (.iaload, 1) := by decide +kernel
theorem d_I_valueAt_45 : decode (xC k_I_valueAt) 45 = .ok (.ireturn, 1) := by decide +kernel
theorem d_I_valueAt_46 : decode (xC k_I_valueAt) 46 = .ok (.iinc 2 (-1), 3) := by decide +kernel
theorem d_I_valueAt_49 : decode (xC k_I_valueAt) 49 = .ok (.goto (-24), 3) := by decide +kernel
theorem d_I_valueAt_52 : decode (xC k_I_valueAt) 52 = .ok (.iconst (-1), 1) := by decide +kernel
theorem d_I_valueAt_53 : decode (xC k_I_valueAt) 53 = .ok (.ireturn, 1) := by decide +kernel
theorem d_O_init_0 : decode (xC k_O_init) 0 = .ok (.aload_n 0, 1) := by decide +kernel
theorem d_O_init_1 : decode (xC k_O_init) 1 = .ok (.invokespecial 3, 3) := by decide +kernel
theorem d_O_init_4 : decode (xC k_O_init) 4 = .ok (.aload_n 0, 1) := by decide +kernel
theorem d_O_init_5 : decode (xC k_O_init) 5 = .ok (.bipush 100, 2) := by decide +kernel
theorem d_O_init_7 : decode (xC k_O_init) 7 = .ok (.newarray .int, 2) := by decide +kernel
theorem d_O_init_9 : decode (xC k_O_init) 9 = .ok (.putfield 9, 3) := by decide +kernel
theorem d_O_init_12 : decode (xC k_O_init) 12 = .ok (.aload_n 0, 1) := by decide +kernel
theorem d_O_init_13 : decode (xC k_O_init) 13 = .ok (.bipush 100, 2) := by decide +kernel
theorem d_O_init_15 : decode (xC k_O_init) 15 = .ok (.newarray .int, 2) := by decide +kernel
theorem d_O_init_17 : decode (xC k_O_init) 17 = .ok (.putfield 15, 3) := by decide +kernel
theorem d_O_init_20 : decode (xC k_O_init) 20 = .ok (.aload_n 0, 1) := by decide +kernel
theorem d_O_init_21 : decode (xC k_O_init) 21 = .ok (.bipush 6, 2) := by decide +kernel
theorem d_O_init_23 : decode (xC k_O_init) 23 = .ok (.newarray .boolean, 2) := by decide +kernel
theorem d_O_init_25 : decode (xC k_O_init) 25 = .ok (.putfield 18, 3) := by decide +kernel
theorem d_O_init_28 : decode (xC k_O_init) 28 = .ok (.aload_n 0, 1) := by decide +kernel
theorem d_O_init_29 : decode (xC k_O_init) 29 = .ok (.iconst 0, 1) := by decide +kernel
theorem d_O_init_30 : decode (xC k_O_init) 30 = .ok (.putfield 22, 3) := by decide +kernel
theorem d_O_init_33 : decode (xC k_O_init) 33 = .ok (.aload_n 0, 1) := by decide +kernel
theorem d_O_init_34 : decode (xC k_O_init) 34 = .ok (.iconst 0, 1) := by decide +kernel
theorem d_O_init_35 : decode (xC k_O_init) 35 = .ok (.putfield 26, 3) := by decide +kernel
theorem d_O_init_38 : decode (xC k_O_init) 38 = .ok (.aload_n 0, 1) := by decide +kernel
theorem d_O_init_39 : decode (xC k_O_init) 39 = .ok (.aload_n 1, 1) := by decide +kernel
theorem d_O_init_40 : decode (xC k_O_init) 40 = .ok (.putfield 30, 3) := by decide +kernel
theorem d_O_init_43 : decode (xC k_O_init) 43 = .ok (.aload_n 0, 1) := by decide +kernel
theorem d_O_init_44 : decode (xC k_O_init) 44 = .ok (.aload_n 2, 1) := by decide +kernel
theorem d_O_init_45 : decode (xC k_O_init) 45 = .ok (.putfield 34, 3) := by decide +kernel
theorem d_O_init_48 : decode (xC k_O_init) 48 = .ok (.return_, 1) := by decide +kernel
theorem d_O_forget_0 : decode (xC k_O_forget) 0 = .ok (.iload_n 1, 1) := by decide +kernel
theorem d_O_forget_1 : decode (xC k_O_forget) 1 = .ok (.ifCond .lt 16, 3) := by decide +kernel
theorem d_O_forget_4 : decode (xC k_O_forget) 4 = .ok (.iload_n 1, 1) := by decide +kernel
theorem d_O_forget_5 : decode (xC k_O_forget) 5 = .ok (.bipush 6, 2) := by decide +kernel
theorem d_O_forget_7 : decode (xC k_O_forget) 7 = .ok (.if_icmp .ge 10, 3) := by decide +kernel
theorem d_O_forget_10 : decode (xC k_O_forget) 10 = .ok (.aload_n 0, 1) := by decide +kernel
theorem d_O_forget_11 : decode (xC k_O_forget) 11 = .ok (.getfield 18, 3) := by decide +kernel
theorem d_O_forget_14 : decode (xC k_O_forget) 14 = .ok (.iload_n 1, 1) := by decide +kernel
theorem d_O_forget_15 : decode (xC k_O_forget) 15 = .ok (.iconst 0, 1) := by decide +kernel
theorem d_O_forget_16 : decode (xC k_O_forget) 16 = .ok (.bastore, 1) := by decide +kernel
theorem d_O_forget_17 : decode (xC k_O_forget) 17 = .ok (.return_, 1) := by decide +kernel
theorem d_O_tell_0 : decode (xC k_O_tell) 0 = .ok (.iload_n 2, 1) := by decide +kernel
theorem d_O_tell_1 : decode (xC k_O_tell) 1 = .ok (.ifCond .lt 27, 3) := by decide +kernel
theorem d_O_tell_4 : decode (xC k_O_tell) 4 = .ok (.iload_n 2, 1) := by decide +kernel
theorem d_O_tell_5 : decode (xC k_O_tell) 5 = .ok (.bipush 6, 2) := by decide +kernel
theorem d_O_tell_7 : decode (xC k_O_tell) 7 = .ok (.if_icmp .ge 21, 3) := by decide +kernel
theorem d_O_tell_10 : decode (xC k_O_tell) 10 = .ok (.aload_n 0, 1) := by decide +kernel
theorem d_O_tell_11 : decode (xC k_O_tell) 11 = .ok (.getfield 18, 3) := by decide +kernel
theorem d_O_tell_14 : decode (xC k_O_tell) 14 = .ok (.iload_n 2, 1) := by decide +kernel
theorem d_O_tell_15 : decode (xC k_O_tell) 15 = .ok (.baload, 1) := by decide +kernel
theorem d_O_tell_16 : decode (xC k_O_tell) 16 = .ok (.ifCond .ne 12, 3) := by decide +kernel
theorem d_O_tell_19 : decode (xC k_O_tell) 19 = .ok (.aload_n 0, 1) := by decide +kernel
theorem d_O_tell_20 : decode (xC k_O_tell) 20 = .ok (.getfield 26, 3) := by decide +kernel
theorem d_O_tell_23 : decode (xC k_O_tell) 23 = .ok (.bipush 100, 2) := by decide +kernel
theorem d_O_tell_25 : decode (xC k_O_tell) 25 = .ok (.if_icmp .lt 4, 3) := by decide +kernel
theorem d_O_tell_28 : decode (xC k_O_tell) 28 = .ok (.return_, 1) := by decide +kernel
theorem d_O_tell_29 : decode (xC k_O_tell) 29 = .ok (.aload_n 0, 1) := by decide +kernel
theorem d_O_tell_30 : decode (xC k_O_tell) 30 = .ok (.getfield 18, 3) := by decide +kernel
theorem d_O_tell_33 : decode (xC k_O_tell) 33 = .ok (.iload_n 2, 1) := by decide +kernel
theorem d_O_tell_34 : decode (xC k_O_tell) 34 = .ok (.iconst 1, 1) := by decide +kernel
theorem d_O_tell_35 : decode (xC k_O_tell) 35 = .ok (.bastore, 1) := by decide +kernel
theorem d_O_tell_36 : decode (xC k_O_tell) 36 = .ok (.aload_n 0, 1) := by decide +kernel
theorem d_O_tell_37 : decode (xC k_O_tell) 37 = .ok (.getfield 9, 3) := by decide +kernel
theorem d_O_tell_40 : decode (xC k_O_tell) 40 = .ok (.aload_n 0, 1) := by decide +kernel
theorem d_O_tell_41 : decode (xC k_O_tell) 41 = .ok (.getfield 26, 3) := by decide +kernel
theorem d_O_tell_44 : decode (xC k_O_tell) 44 = .ok (.iload_n 1, 1) := by decide +kernel
theorem d_O_tell_45 : decode (xC k_O_tell) 45 = .ok (.iastore, 1) := by decide +kernel
theorem d_O_tell_46 : decode (xC k_O_tell) 46 = .ok (.aload_n 0, 1) := by decide +kernel
theorem d_O_tell_47 : decode (xC k_O_tell) 47 = .ok (.getfield 15, 3) := by decide +kernel
theorem d_O_tell_50 : decode (xC k_O_tell) 50 = .ok (.aload_n 0, 1) := by decide +kernel
theorem d_O_tell_51 : decode (xC k_O_tell) 51 = .ok (.getfield 26, 3) := by decide +kernel
theorem d_O_tell_54 : decode (xC k_O_tell) 54 = .ok (.iload_n 2, 1) := by decide +kernel
theorem d_O_tell_55 : decode (xC k_O_tell) 55 = .ok (.iastore, 1) := by decide +kernel
theorem d_O_tell_56 : decode (xC k_O_tell) 56 = .ok (.aload_n 0, 1) := by decide +kernel
theorem d_O_tell_57 : decode (xC k_O_tell) 57 = .ok (.dup, 1) := by decide +kernel
theorem d_O_tell_58 : decode (xC k_O_tell) 58 = .ok (.getfield 26, 3) := by decide +kernel
theorem d_O_tell_61 : decode (xC k_O_tell) 61 = .ok (.iconst 1, 1) := by decide +kernel
theorem d_O_tell_62 : decode (xC k_O_tell) 62 = .ok (.iadd, 1) := by decide +kernel
theorem d_O_tell_63 : decode (xC k_O_tell) 63 = .ok (.putfield 26, 3) := by decide +kernel
theorem d_O_tell_66 : decode (xC k_O_tell) 66 = .ok (.return_, 1) := by decide +kernel
theorem d_O_price_0 : decode (xC k_O_price) 0 = .ok (.iconst 5, 1) := by decide +kernel
theorem d_O_price_1 : decode (xC k_O_price) 1 = .ok (.aload_n 0, 1) := by decide +kernel
theorem d_O_price_2 : decode (xC k_O_price) 2 = .ok (.getfield 34, 3) := by decide +kernel
theorem d_O_price_5 : decode (xC k_O_price) 5 = .ok (.invokevirtual 38, 3) := by decide +kernel
theorem d_O_price_8 : decode (xC k_O_price) 8 = .ok (.imul, 1) := by decide +kernel
theorem d_O_price_9 : decode (xC k_O_price) 9 = .ok (.bipush 20, 2) := by decide +kernel
theorem d_O_price_11 : decode (xC k_O_price) 11 = .ok (.aload_n 0, 1) := by decide +kernel
theorem d_O_price_12 : decode (xC k_O_price) 12 = .ok (.getfield 30, 3) := by decide +kernel
theorem d_O_price_15 : decode (xC k_O_price) 15 = .ok (.getfield 44, 3) := by decide +kernel
theorem d_O_price_18 : decode (xC k_O_price) 18 = .ok (.imul, 1) := by decide +kernel
theorem d_O_price_19 : decode (xC k_O_price) 19 = .ok (.iadd, 1) := by decide +kernel
theorem d_O_price_20 : decode (xC k_O_price) 20 = .ok (.bipush 50, 2) := by decide +kernel
theorem d_O_price_22 : decode (xC k_O_price) 22 = .ok (.aload_n 0, 1) := by decide +kernel
theorem d_O_price_23 : decode (xC k_O_price) 23 = .ok (.getfield 26, 3) := by decide +kernel
theorem d_O_price_26 : decode (xC k_O_price) 26 = .ok (.imul, 1) := by decide +kernel
theorem d_O_price_27 : decode (xC k_O_price) 27 = .ok (.iadd, 1) := by decide +kernel
theorem d_O_price_28 : decode (xC k_O_price) 28 = .ok (.istore_n 1, 1) := by decide +kernel
theorem d_O_price_29 : decode (xC k_O_price) 29 = .ok (.aload_n 0, 1) := by decide +kernel
theorem d_O_price_30 : decode (xC k_O_price) 30 = .ok (.getfield 22, 3) := by decide +kernel
theorem d_O_price_33 : decode (xC k_O_price) 33 = .ok (.ifCond .eq 7, 3) := by decide +kernel
theorem d_O_price_36 : decode (xC k_O_price) 36 = .ok (.iload_n 1, 1) := by decide +kernel
theorem d_O_price_37 : decode (xC k_O_price) 37 = .ok (.goto 8, 3) := by decide +kernel
theorem d_O_price_40 : decode (xC k_O_price) 40 = .ok (.iload_n 1, 1) := by decide +kernel
theorem d_O_price_41 : decode (xC k_O_price) 41 = .ok (.sipush 300, 3) := by decide +kernel
theorem d_O_price_44 : decode (xC k_O_price) 44 = .ok (.iadd, 1) := by decide +kernel
theorem d_O_price_45 : decode (xC k_O_price) 45 = .ok (.ireturn, 1) := by decide +kernel
theorem d_N_init_0 : decode (xC k_N_init) 0 = .ok (.aload_n 0, 1) := by decide +kernel
theorem d_N_init_1 : decode (xC k_N_init) 1 = .ok (.invokespecial 3, 3) := by decide +kernel
theorem d_N_init_4 : decode (xC k_N_init) 4 = .ok (.aload_n 0, 1) := by decide +kernel
theorem d_N_init_5 : decode (xC k_N_init) 5 = .ok (.aconst_null, 1) := by decide +kernel
theorem d_N_init_6 : decode (xC k_N_init) 6 = .ok (.putfield 9, 3) := by decide +kernel
theorem d_N_init_9 : decode (xC k_N_init) 9 = .ok (.aload_n 0, 1) := by decide +kernel
theorem d_N_init_10 : decode (xC k_N_init) 10 = .ok (.iload_n 1, 1) := by decide +kernel
theorem d_N_init_11 : decode (xC k_N_init) 11 = .ok (.putfield 15, 3) := by decide +kernel
theorem d_N_init_14 : decode (xC k_N_init) 14 = .ok (.aload_n 0, 1) := by decide +kernel
theorem d_N_init_15 : decode (xC k_N_init) 15 = .ok (.iconst 0, 1) := by decide +kernel
theorem d_N_init_16 : decode (xC k_N_init) 16 = .ok (.putfield 19, 3) := by decide +kernel
theorem d_N_init_19 : decode (xC k_N_init) 19 = .ok (.aload_n 0, 1) := by decide +kernel
theorem d_N_init_20 : decode (xC k_N_init) 20 = .ok (.iconst 0, 1) := by decide +kernel
theorem d_N_init_21 : decode (xC k_N_init) 21 = .ok (.putfield 22, 3) := by decide +kernel
theorem d_N_init_24 : decode (xC k_N_init) 24 = .ok (.aload_n 0, 1) := by decide +kernel
theorem d_N_init_25 : decode (xC k_N_init) 25 = .ok (.aload_n 2, 1) := by decide +kernel
theorem d_N_init_26 : decode (xC k_N_init) 26 = .ok (.putfield 25, 3) := by decide +kernel
theorem d_N_init_29 : decode (xC k_N_init) 29 = .ok (.return_, 1) := by decide +kernel
theorem d_N_init2_0 : decode (xC k_N_init2) 0 = .ok (.aload_n 0, 1) := by decide +kernel
theorem d_N_init2_1 : decode (xC k_N_init2) 1 = .ok (.invokespecial 3, 3) := by decide +kernel
theorem d_N_init2_4 : decode (xC k_N_init2) 4 = .ok (.aload_n 0, 1) := by decide +kernel
theorem d_N_init2_5 : decode (xC k_N_init2) 5 = .ok (.aconst_null, 1) := by decide +kernel
theorem d_N_init2_6 : decode (xC k_N_init2) 6 = .ok (.putfield 9, 3) := by decide +kernel
theorem d_N_init2_9 : decode (xC k_N_init2) 9 = .ok (.aload_n 0, 1) := by decide +kernel
theorem d_N_init2_10 : decode (xC k_N_init2) 10 = .ok (.iload_n 1, 1) := by decide +kernel
theorem d_N_init2_11 : decode (xC k_N_init2) 11 = .ok (.putfield 15, 3) := by decide +kernel
theorem d_N_init2_14 : decode (xC k_N_init2) 14 = .ok (.aload_n 0, 1) := by decide +kernel
theorem d_N_init2_15 : decode (xC k_N_init2) 15 = .ok (.iload_n 2, 1) := by decide +kernel
theorem d_N_init2_16 : decode (xC k_N_init2) 16 = .ok (.putfield 19, 3) := by decide +kernel
theorem d_N_init2_19 : decode (xC k_N_init2) 19 = .ok (.aload_n 0, 1) := by decide +kernel
theorem d_N_init2_20 : decode (xC k_N_init2) 20 = .ok (.iload_n 3, 1) := by decide +kernel
theorem d_N_init2_21 : decode (xC k_N_init2) 21 = .ok (.putfield 22, 3) := by decide +kernel
theorem d_N_init2_24 : decode (xC k_N_init2) 24 = .ok (.aload_n 0, 1) := by decide +kernel
theorem d_N_init2_25 : decode (xC k_N_init2) 25 = .ok (.aconst_null, 1) := by decide +kernel
theorem d_N_init2_26 : decode (xC k_N_init2) 26 = .ok (.putfield 25, 3) := by decide +kernel
theorem d_N_init2_29 : decode (xC k_N_init2) 29 = .ok (.return_, 1) := by decide +kernel
theorem d_N_compared_0 : decode (xC k_N_compared) 0 = .ok (.aload_n 0, 1) := by decide +kernel
theorem d_N_compared_1 : decode (xC k_N_compared) 1 = .ok (.getfield 15, 3) := by decide +kernel
theorem d_N_compared_4 : decode (xC k_N_compared) 4 = .ok (.bipush 60, 2) := by decide +kernel
theorem d_N_compared_6 : decode (xC k_N_compared) 6 = .ok (.if_icmp .ne 19, 3) := by decide +kernel
theorem d_N_compared_9 : decode (xC k_N_compared) 9 = .ok (.iload_n 1, 1) := by decide +kernel
theorem d_N_compared_10 : decode (xC k_N_compared) 10 = .ok (.aload_n 0, 1) := by decide +kernel
theorem d_N_compared_11 : decode (xC k_N_compared) 11 = .ok (.getfield 22, 3) := by decide +kernel
theorem d_N_compared_14 : decode (xC k_N_compared) 14 = .ok (.if_icmp .ge 7, 3) := by decide +kernel
theorem d_N_compared_17 : decode (xC k_N_compared) 17 = .ok (.iconst 1, 1) := by decide +kernel
theorem d_N_compared_18 : decode (xC k_N_compared) 18 = .ok (.goto 45, 3) := by decide +kernel
theorem d_N_compared_21 : decode (xC k_N_compared) 21 = .ok (.iconst 0, 1) := by decide +kernel
theorem d_N_compared_22 : decode (xC k_N_compared) 22 = .ok (.goto 41, 3) := by decide +kernel
theorem d_N_compared_25 : decode (xC k_N_compared) 25 = .ok (.aload_n 0, 1) := by decide +kernel
theorem d_N_compared_26 : decode (xC k_N_compared) 26 = .ok (.getfield 15, 3) := by decide +kernel
theorem d_N_compared_29 : decode (xC k_N_compared) 29 = .ok (.bipush 62, 2) := by decide +kernel
theorem d_N_compared_31 : decode (xC k_N_compared) 31 = .ok (.if_icmp .ne 19, 3) := by decide +kernel
theorem d_N_compared_34 : decode (xC k_N_compared) 34 = .ok (.iload_n 1, 1) := by decide +kernel
theorem d_N_compared_35 : decode (xC k_N_compared) 35 = .ok (.aload_n 0, 1) := by decide +kernel
theorem d_N_compared_36 : decode (xC k_N_compared) 36 = .ok (.getfield 22, 3) := by decide +kernel
theorem d_N_compared_39 : decode (xC k_N_compared) 39 = .ok (.if_icmp .le 7, 3) := by decide +kernel
theorem d_N_compared_42 : decode (xC k_N_compared) 42 = .ok (.iconst 1, 1) := by decide +kernel
theorem d_N_compared_43 : decode (xC k_N_compared) 43 = .ok (.goto 20, 3) := by decide +kernel
theorem d_N_compared_46 : decode (xC k_N_compared) 46 = .ok (.iconst 0, 1) := by decide +kernel
theorem d_N_compared_47 : decode (xC k_N_compared) 47 = .ok (.goto 16, 3) := by decide +kernel
theorem d_N_compared_50 : decode (xC k_N_compared) 50 = .ok (.iload_n 1, 1) := by decide +kernel
theorem d_N_compared_51 : decode (xC k_N_compared) 51 = .ok (.aload_n 0, 1) := by decide +kernel
theorem d_N_compared_52 : decode (xC k_N_compared) 52 = .ok (.getfield 22, 3) := by decide +kernel
theorem d_N_compared_55 : decode (xC k_N_compared) 55 = .ok (.if_icmp .ne 7, 3) := by decide +kernel
theorem d_N_compared_58 : decode (xC k_N_compared) 58 = .ok (.iconst 1, 1) := by decide +kernel
theorem d_N_compared_59 : decode (xC k_N_compared) 59 = .ok (.goto 4, 3) := by decide +kernel
theorem d_N_compared_62 : decode (xC k_N_compared) 62 = .ok (.iconst 0, 1) := by decide +kernel
theorem d_N_compared_63 : decode (xC k_N_compared) 63 = .ok (.istore_n 2, 1) := by decide +kernel
theorem d_N_compared_64 : decode (xC k_N_compared) 64 = .ok (.iload_n 2, 1) := by decide +kernel
theorem d_N_compared_65 : decode (xC k_N_compared) 65 = .ok (.ifCond .eq 7, 3) := by decide +kernel
theorem d_N_compared_68 : decode (xC k_N_compared) 68 = .ok (.iconst 1, 1) := by decide +kernel
theorem d_N_compared_69 : decode (xC k_N_compared) 69 = .ok (.goto 4, 3) := by decide +kernel
theorem d_N_compared_72 : decode (xC k_N_compared) 72 = .ok (.iconst 0, 1) := by decide +kernel
theorem d_N_compared_73 : decode (xC k_N_compared) 73 = .ok (.ireturn, 1) := by decide +kernel
theorem d_R_init_0 : decode (xC k_R_init) 0 = .ok (.aload_n 0, 1) := by decide +kernel
theorem d_R_init_1 : decode (xC k_R_init) 1 = .ok (.invokespecial 3, 3) := by decide +kernel
theorem d_R_init_4 : decode (xC k_R_init) 4 = .ok (.aload_n 0, 1) := by decide +kernel
theorem d_R_init_5 : decode (xC k_R_init) 5 = .ok (.iconst 0, 1) := by decide +kernel
theorem d_R_init_6 : decode (xC k_R_init) 6 = .ok (.putfield 9, 3) := by decide +kernel
theorem d_R_init_9 : decode (xC k_R_init) 9 = .ok (.aload_n 0, 1) := by decide +kernel
theorem d_R_init_10 : decode (xC k_R_init) 10 = .ok (.aload_n 1, 1) := by decide +kernel
theorem d_R_init_11 : decode (xC k_R_init) 11 = .ok (.putfield 15, 3) := by decide +kernel
theorem d_R_init_14 : decode (xC k_R_init) 14 = .ok (.return_, 1) := by decide +kernel
theorem d_R_readContract_0 : decode (xC k_R_readContract) 0 = .ok (.new 19, 3) := by decide +kernel
theorem d_R_readContract_3 : decode (xC k_R_readContract) 3 = .ok (.dup, 1) := by decide +kernel
theorem d_R_readContract_4 : decode (xC k_R_readContract) 4 = .ok (.invokespecial 21, 3) := by decide +kernel
theorem d_R_readContract_7 : decode (xC k_R_readContract) 7 = .ok (.astore_n 1, 1) := by decide +kernel
theorem d_R_readContract_8 : decode (xC k_R_readContract) 8 = .ok (.iconst 5, 1) := by decide +kernel
theorem d_R_readContract_9 : decode (xC k_R_readContract) 9 = .ok (.istore_n 2, 1) := by decide +kernel
theorem d_R_readContract_10 : decode (xC k_R_readContract) 10 = .ok (.iload_n 2, 1) := by decide +kernel
theorem d_R_readContract_11 : decode (xC k_R_readContract) 11 = .ok (.ifCond .lt 69, 3) := by decide +kernel
theorem d_R_readContract_14 : decode (xC k_R_readContract) 14 = .ok (.aload_n 0, 1) := by decide +kernel
theorem d_R_readContract_15 : decode (xC k_R_readContract) 15 = .ok (.bipush 124, 2) := by decide +kernel
theorem d_R_readContract_17 : decode (xC k_R_readContract) 17 = .ok (.iconst 0, 1) := by decide +kernel
theorem d_R_readContract_18 : decode (xC k_R_readContract) 18 = .ok (.invokevirtual 22, 3) := by decide +kernel
theorem d_R_readContract_21 : decode (xC k_R_readContract) 21 = .ok (.astore_n 3, 1) := by decide +kernel
theorem d_R_readContract_22 : decode (xC k_R_readContract) 22 = .ok (.aload_n 3, 1) := by decide +kernel
theorem d_R_readContract_23 : decode (xC k_R_readContract) 23 = .ok (.ifnonnull 5, 3) := by decide +kernel
theorem d_R_readContract_26 : decode (xC k_R_readContract) 26 = .ok (.aconst_null, 1) := by decide +kernel
theorem d_R_readContract_27 : decode (xC k_R_readContract) 27 = .ok (.areturn, 1) := by decide +kernel
theorem d_R_readContract_28 : decode (xC k_R_readContract) 28 = .ok (.aload_n 1, 1) := by decide +kernel
theorem d_R_readContract_29 : decode (xC k_R_readContract) 29 = .ok (.aload_n 3, 1) := by decide +kernel
theorem d_R_readContract_30 : decode (xC k_R_readContract) 30 = .ok (.invokevirtual 26, 3) := by decide +kernel
theorem d_R_readContract_33 : decode (xC k_R_readContract) 33 = .ok (.aload_n 0, 1) := by decide +kernel
theorem d_R_readContract_34 : decode (xC k_R_readContract) 34 = .ok (.getfield 9, 3) := by decide +kernel
theorem d_R_readContract_37 : decode (xC k_R_readContract) 37 = .ok (.aload_n 0, 1) := by decide +kernel
theorem d_R_readContract_38 : decode (xC k_R_readContract) 38 = .ok (.getfield 15, 3) := by decide +kernel
theorem d_R_readContract_41 : decode (xC k_R_readContract) 41 = .ok (.getfield 30, 3) := by decide +kernel
theorem d_R_readContract_44 : decode (xC k_R_readContract) 44 = .ok (.if_icmp .lt 5, 3) := by decide +kernel
theorem d_R_readContract_47 : decode (xC k_R_readContract) 47 = .ok (.aload_n 1, 1) := by decide +kernel
theorem d_R_readContract_48 : decode (xC k_R_readContract) 48 = .ok (.areturn, 1) := by decide +kernel
theorem d_R_readContract_49 : decode (xC k_R_readContract) 49 = .ok (.aload_n 0, 1) := by decide +kernel
theorem d_R_readContract_50 : decode (xC k_R_readContract) 50 = .ok (.invokevirtual 35, 3) := by decide +kernel
theorem d_R_readContract_53 : decode (xC k_R_readContract) 53 = .ok (.bipush 59, 2) := by decide +kernel
theorem d_R_readContract_55 : decode (xC k_R_readContract) 55 = .ok (.if_icmp .ne 7, 3) := by decide +kernel
theorem d_R_readContract_58 : decode (xC k_R_readContract) 58 = .ok (.iload_n 2, 1) := by decide +kernel
theorem d_R_readContract_59 : decode (xC k_R_readContract) 59 = .ok (.ifCond .ne 5, 3) := by decide +kernel
theorem d_R_readContract_62 : decode (xC k_R_readContract) 62 = .ok (.aconst_null, 1) := by decide +kernel
theorem d_R_readContract_63 : decode (xC k_R_readContract) 63 = .ok (.areturn, 1) := by decide +kernel
theorem d_R_readContract_64 : decode (xC k_R_readContract) 64 = .ok (.aload_n 0, 1) := by decide +kernel
theorem d_R_readContract_65 : decode (xC k_R_readContract) 65 = .ok (.dup, 1) := by decide +kernel
theorem d_R_readContract_66 : decode (xC k_R_readContract) 66 = .ok (.getfield 9, 3) := by decide +kernel
theorem d_R_readContract_69 : decode (xC k_R_readContract) 69 = .ok (.iconst 1, 1) := by decide +kernel
theorem d_R_readContract_70 : decode (xC k_R_readContract) 70 = .ok (.iadd, 1) := by decide +kernel
theorem d_R_readContract_71 : decode (xC k_R_readContract) 71 = .ok (.putfield 9, 3) := by decide +kernel
theorem d_R_readContract_74 : decode (xC k_R_readContract) 74 = .ok (.iinc 2 (-1), 3) := by decide +kernel
theorem d_R_readContract_77 : decode (xC k_R_readContract) 77 = .ok (.goto (-67), 3) := by decide +kernel
theorem d_R_readContract_80 : decode (xC k_R_readContract) 80 = .ok (.aconst_null, 1) := by decide +kernel
theorem d_R_readContract_81 : decode (xC k_R_readContract) 81 = .ok (.areturn, 1) := by decide +kernel
theorem d_R_readGroup_0 : decode (xC k_R_readGroup) 0 = .ok (.aload_n 0, 1) := by decide +kernel
theorem d_R_readGroup_1 : decode (xC k_R_readGroup) 1 = .ok (.iload_n 1, 1) := by decide +kernel
theorem d_R_readGroup_2 : decode (xC k_R_readGroup) 2 = .ok (.iload_n 2, 1) := by decide +kernel
theorem d_R_readGroup_3 : decode (xC k_R_readGroup) 3 = .ok (.invokevirtual 39, 3) := by decide +kernel
theorem d_R_readGroup_6 : decode (xC k_R_readGroup) 6 = .ok (.astore_n 3, 1) := by decide +kernel
theorem d_R_readGroup_7 : decode (xC k_R_readGroup) 7 = .ok (.aload_n 3, 1) := by decide +kernel
theorem d_R_readGroup_8 : decode (xC k_R_readGroup) 8 = .ok (.ifnull 11, 3) := by decide +kernel
theorem d_R_readGroup_11 : decode (xC k_R_readGroup) 11 = .ok (.aload_n 0, 1) := by decide +kernel
theorem d_R_readGroup_12 : decode (xC k_R_readGroup) 12 = .ok (.invokevirtual 35, 3) := by decide +kernel
theorem d_R_readGroup_15 : decode (xC k_R_readGroup) 15 = .ok (.iload_n 1, 1) := by decide +kernel
theorem d_R_readGroup_16 : decode (xC k_R_readGroup) 16 = .ok (.if_icmp .eq 5, 3) := by decide +kernel
theorem d_R_readGroup_19 : decode (xC k_R_readGroup) 19 = .ok (.aload_n 3, 1) := by decide +kernel
theorem d_R_readGroup_20 : decode (xC k_R_readGroup) 20 = .ok (.areturn, 1) := by decide +kernel
theorem d_R_readGroup_21 : decode (xC k_R_readGroup) 21 = .ok (.aload_n 3, 1) := by decide +kernel
theorem d_R_readGroup_22 : decode (xC k_R_readGroup) 22 = .ok (.astore 4, 2) := by decide +kernel
theorem d_R_readGroup_24 : decode (xC k_R_readGroup) 24 = .ok (.iconst 1, 1) := by decide +kernel
theorem d_R_readGroup_25 : decode (xC k_R_readGroup) 25 = .ok (.istore 5, 2) := by decide +kernel
theorem d_R_readGroup_27 : decode (xC k_R_readGroup) 27 = .ok (.iload 5, 2) := by decide +kernel
theorem d_R_readGroup_29 : decode (xC k_R_readGroup) 29 = .ok (.bipush 80, 2) := by decide +kernel
theorem d_R_readGroup_31 : decode (xC k_R_readGroup) 31 = .ok (.if_icmp .ge 53, 3) := by decide +kernel
theorem d_R_readGroup_34 : decode (xC k_R_readGroup) 34 = .ok (.aload_n 0, 1) := by decide +kernel
theorem d_R_readGroup_35 : decode (xC k_R_readGroup) 35 = .ok (.invokevirtual 35, 3) := by decide +kernel
theorem d_R_readGroup_38 : decode (xC k_R_readGroup) 38 = .ok (.iload_n 1, 1) := by decide +kernel
theorem d_R_readGroup_39 : decode (xC k_R_readGroup) 39 = .ok (.if_icmp .ne 45, 3) := by decide +kernel
theorem d_R_readGroup_42 : decode (xC k_R_readGroup) 42 = .ok (.aload_n 0, 1) := by decide +kernel
theorem d_R_readGroup_43 : decode (xC k_R_readGroup) 43 = .ok (.dup, 1) := by decide +kernel
theorem d_R_readGroup_44 : decode (xC k_R_readGroup) 44 = .ok (.getfield 9, 3) := by decide +kernel
theorem d_R_readGroup_47 : decode (xC k_R_readGroup) 47 = .ok (.iconst 1, 1) := by decide +kernel
theorem d_R_readGroup_48 : decode (xC k_R_readGroup) 48 = .ok (.iadd, 1) := by decide +kernel
theorem d_R_readGroup_49 : decode (xC k_R_readGroup) 49 = .ok (.putfield 9, 3) := by decide +kernel
theorem d_R_readGroup_52 : decode (xC k_R_readGroup) 52 = .ok (.aload_n 0, 1) := by decide +kernel
theorem d_R_readGroup_53 : decode (xC k_R_readGroup) 53 = .ok (.iload_n 1, 1) := by decide +kernel
theorem d_R_readGroup_54 : decode (xC k_R_readGroup) 54 = .ok (.iload_n 2, 1) := by decide +kernel
theorem d_R_readGroup_55 : decode (xC k_R_readGroup) 55 = .ok (.invokevirtual 39, 3) := by decide +kernel
theorem d_R_readGroup_58 : decode (xC k_R_readGroup) 58 = .ok (.astore 6, 2) := by decide +kernel
theorem d_R_readGroup_60 : decode (xC k_R_readGroup) 60 = .ok (.aload 6, 2) := by decide +kernel
theorem d_R_readGroup_62 : decode (xC k_R_readGroup) 62 = .ok (.ifnonnull 5, 3) := by decide +kernel
theorem d_R_readGroup_65 : decode (xC k_R_readGroup) 65 = .ok (.aconst_null, 1) := by decide +kernel
theorem d_R_readGroup_66 : decode (xC k_R_readGroup) 66 = .ok (.areturn, 1) := by decide +kernel
theorem d_R_readGroup_67 : decode (xC k_R_readGroup) 67 = .ok (.aload 4, 2) := by decide +kernel
theorem d_R_readGroup_69 : decode (xC k_R_readGroup) 69 = .ok (.aload 6, 2) := by decide +kernel
theorem d_R_readGroup_71 : decode (xC k_R_readGroup) 71 = .ok (.putfield 42, 3) := by decide +kernel
theorem d_R_readGroup_74 : decode (xC k_R_readGroup) 74 = .ok (.aload 6, 2) := by decide +kernel
theorem d_R_readGroup_76 : decode (xC k_R_readGroup) 76 = .ok (.astore 4, 2) := by decide +kernel
theorem d_R_readGroup_78 : decode (xC k_R_readGroup) 78 = .ok (.iinc 5 1, 3) := by decide +kernel
theorem d_R_readGroup_81 : decode (xC k_R_readGroup) 81 = .ok (.goto (-54), 3) := by decide +kernel
theorem d_R_readGroup_84 : decode (xC k_R_readGroup) 84 = .ok (.new 43, 3) := by decide +kernel
theorem d_R_readGroup_87 : decode (xC k_R_readGroup) 87 = .ok (.dup, 1) := by decide +kernel
theorem d_R_readGroup_88 : decode (xC k_R_readGroup) 88 = .ok (.iload_n 1, 1) := by decide +kernel
theorem d_R_readGroup_89 : decode (xC k_R_readGroup) 89 = .ok (.aload_n 3, 1) := by decide +kernel
theorem d_R_readGroup_90 : decode (xC k_R_readGroup) 90 = .ok (.invokespecial 48, 3) := by decide +kernel
theorem d_R_readGroup_93 : decode (xC k_R_readGroup) 93 = .ok (.areturn, 1) := by decide +kernel
theorem d_R_readItem_0 : decode (xC k_R_readItem) 0 = .ok (.iload_n 1, 1) := by decide +kernel
theorem d_R_readItem_1 : decode (xC k_R_readItem) 1 = .ok (.bipush 124, 2) := by decide +kernel
theorem d_R_readItem_3 : decode (xC k_R_readItem) 3 = .ok (.if_icmp .ne 13, 3) := by decide +kernel
theorem d_R_readItem_6 : decode (xC k_R_readItem) 6 = .ok (.aload_n 0, 1) := by decide +kernel
theorem d_R_readItem_7 : decode (xC k_R_readItem) 7 = .ok (.bipush 38, 2) := by decide +kernel
theorem d_R_readItem_9 : decode (xC k_R_readItem) 9 = .ok (.iload_n 2, 1) := by decide +kernel
theorem d_R_readItem_10 : decode (xC k_R_readItem) 10 = .ok (.invokevirtual 22, 3) := by decide +kernel
theorem d_R_readItem_13 : decode (xC k_R_readItem) 13 = .ok (.goto 9, 3) := by decide +kernel
theorem d_R_readItem_16 : decode (xC k_R_readItem) 16 = .ok (.aload_n 0, 1) := by decide +kernel
theorem d_R_readItem_17 : decode (xC k_R_readItem) 17 = .ok (.iload_n 2, 1) := by decide +kernel
theorem d_R_readItem_18 : decode (xC k_R_readItem) 18 = .ok (.iconst 0, 1) := by decide +kernel
theorem d_R_readItem_19 : decode (xC k_R_readItem) 19 = .ok (.invokevirtual 51, 3) := by decide +kernel
theorem d_R_readItem_22 : decode (xC k_R_readItem) 22 = .ok (.areturn, 1) := by decide +kernel
theorem d_R_readBit_0 : decode (xC k_R_readBit) 0 = .ok (.aload_n 0, 1) := by decide +kernel
theorem d_R_readBit_1 : decode (xC k_R_readBit) 1 = .ok (.invokevirtual 35, 3) := by decide +kernel
theorem d_R_readBit_4 : decode (xC k_R_readBit) 4 = .ok (.bipush 33, 2) := by decide +kernel
theorem d_R_readBit_6 : decode (xC k_R_readBit) 6 = .ok (.if_icmp .ne 46, 3) := by decide +kernel
theorem d_R_readBit_9 : decode (xC k_R_readBit) 9 = .ok (.iload_n 2, 1) := by decide +kernel
theorem d_R_readBit_10 : decode (xC k_R_readBit) 10 = .ok (.iconst 3, 1) := by decide +kernel
theorem d_R_readBit_11 : decode (xC k_R_readBit) 11 = .ok (.if_icmp .ge 41, 3) := by decide +kernel
theorem d_R_readBit_14 : decode (xC k_R_readBit) 14 = .ok (.aload_n 0, 1) := by decide +kernel
theorem d_R_readBit_15 : decode (xC k_R_readBit) 15 = .ok (.dup, 1) := by decide +kernel
theorem d_R_readBit_16 : decode (xC k_R_readBit) 16 = .ok (.getfield 9, 3) := by decide +kernel
theorem d_R_readBit_19 : decode (xC k_R_readBit) 19 = .ok (.iconst 1, 1) := by decide +kernel
theorem d_R_readBit_20 : decode (xC k_R_readBit) 20 = .ok (.iadd, 1) := by decide +kernel
theorem d_R_readBit_21 : decode (xC k_R_readBit) 21 = .ok (.putfield 9, 3) := by decide +kernel
theorem d_R_readBit_24 : decode (xC k_R_readBit) 24 = .ok (.aload_n 0, 1) := by decide +kernel
theorem d_R_readBit_25 : decode (xC k_R_readBit) 25 = .ok (.iload_n 1, 1) := by decide +kernel
theorem d_R_readBit_26 : decode (xC k_R_readBit) 26 = .ok (.iload_n 2, 1) := by decide +kernel
theorem d_R_readBit_27 : decode (xC k_R_readBit) 27 = .ok (.iconst 1, 1) := by decide +kernel
theorem d_R_readBit_28 : decode (xC k_R_readBit) 28 = .ok (.iadd, 1) := by decide +kernel
theorem d_R_readBit_29 : decode (xC k_R_readBit) 29 = .ok (.invokevirtual 51, 3) := by decide +kernel
theorem d_R_readBit_32 : decode (xC k_R_readBit) 32 = .ok (.astore_n 3, 1) := by decide +kernel
theorem d_R_readBit_33 : decode (xC k_R_readBit) 33 = .ok (.aload_n 3, 1) := by decide +kernel
theorem d_R_readBit_34 : decode (xC k_R_readBit) 34 = .ok (.ifnonnull 7, 3) := by decide +kernel
theorem d_R_readBit_37 : decode (xC k_R_readBit) 37 = .ok (.aconst_null, 1) := by decide +kernel
theorem d_R_readBit_38 : decode (xC k_R_readBit) 38 = .ok (.goto 13, 3) := by decide +kernel
theorem d_R_readBit_41 : decode (xC k_R_readBit) 41 = .ok (.new 43, 3) := by decide +kernel
theorem d_R_readBit_44 : decode (xC k_R_readBit) 44 = .ok (.dup, 1) := by decide +kernel
theorem d_R_readBit_45 : decode (xC k_R_readBit) 45 = .ok (.bipush 33, 2) := by decide +kernel
theorem d_R_readBit_47 : decode (xC k_R_readBit) 47 = .ok (.aload_n 3, 1) := by decide +kernel
theorem d_R_readBit_48 : decode (xC k_R_readBit) 48 = .ok (.invokespecial 48, 3) := by decide +kernel
theorem d_R_readBit_51 : decode (xC k_R_readBit) 51 = .ok (.areturn, 1) := by decide +kernel
theorem d_R_readBit_52 : decode (xC k_R_readBit) 52 = .ok (.aload_n 0, 1) := by decide +kernel
theorem d_R_readBit_53 : decode (xC k_R_readBit) 53 = .ok (.invokevirtual 35, 3) := by decide +kernel
theorem d_R_readBit_56 : decode (xC k_R_readBit) 56 = .ok (.bipush 40, 2) := by decide +kernel
theorem d_R_readBit_58 : decode (xC k_R_readBit) 58 = .ok (.if_icmp .ne 55, 3) := by decide +kernel
theorem d_R_readBit_61 : decode (xC k_R_readBit) 61 = .ok (.iload_n 1, 1) := by decide +kernel
theorem d_R_readBit_62 : decode (xC k_R_readBit) 62 = .ok (.iconst 5, 1) := by decide +kernel
theorem d_R_readBit_63 : decode (xC k_R_readBit) 63 = .ok (.if_icmp .ge 50, 3) := by decide +kernel
theorem d_R_readBit_66 : decode (xC k_R_readBit) 66 = .ok (.aload_n 0, 1) := by decide +kernel
theorem d_R_readBit_67 : decode (xC k_R_readBit) 67 = .ok (.dup, 1) := by decide +kernel
theorem d_R_readBit_68 : decode (xC k_R_readBit) 68 = .ok (.getfield 9, 3) := by decide +kernel
theorem d_R_readBit_71 : decode (xC k_R_readBit) 71 = .ok (.iconst 1, 1) := by decide +kernel
theorem d_R_readBit_72 : decode (xC k_R_readBit) 72 = .ok (.iadd, 1) := by decide +kernel
theorem d_R_readBit_73 : decode (xC k_R_readBit) 73 = .ok (.putfield 9, 3) := by decide +kernel
theorem d_R_readBit_76 : decode (xC k_R_readBit) 76 = .ok (.aload_n 0, 1) := by decide +kernel
theorem d_R_readBit_77 : decode (xC k_R_readBit) 77 = .ok (.bipush 124, 2) := by decide +kernel
theorem d_R_readBit_79 : decode (xC k_R_readBit) 79 = .ok (.iload_n 1, 1) := by decide +kernel
theorem d_R_readBit_80 : decode (xC k_R_readBit) 80 = .ok (.iconst 1, 1) := by decide +kernel
theorem d_R_readBit_81 : decode (xC k_R_readBit) 81 = .ok (.iadd, 1) := by decide +kernel
theorem d_R_readBit_82 : decode (xC k_R_readBit) 82 = .ok (.invokevirtual 22, 3) := by decide +kernel
theorem d_R_readBit_85 : decode (xC k_R_readBit) 85 = .ok (.astore_n 3, 1) := by decide +kernel
theorem d_R_readBit_86 : decode (xC k_R_readBit) 86 = .ok (.aload_n 3, 1) := by decide +kernel
theorem d_R_readBit_87 : decode (xC k_R_readBit) 87 = .ok (.ifnull 12, 3) := by decide +kernel
theorem d_R_readBit_90 : decode (xC k_R_readBit) 90 = .ok (.aload_n 0, 1) := by decide +kernel
theorem d_R_readBit_91 : decode (xC k_R_readBit) 91 = .ok (.invokevirtual 35, 3) := by decide +kernel
theorem d_R_readBit_94 : decode (xC k_R_readBit) 94 = .ok (.bipush 41, 2) := by decide +kernel
theorem d_R_readBit_96 : decode (xC k_R_readBit) 96 = .ok (.if_icmp .eq 5, 3) := by decide +kernel
theorem d_R_readBit_99 : decode (xC k_R_readBit) 99 = .ok (.aconst_null, 1) := by decide +kernel
theorem d_R_readBit_100 : decode (xC k_R_readBit) 100 = .ok (.areturn, 1) := by decide +kernel
theorem d_R_readBit_101 : decode (xC k_R_readBit) 101 = .ok (.aload_n 0, 1) := by decide +kernel
theorem d_R_readBit_102 : decode (xC k_R_readBit) 102 = .ok (.dup, 1) := by decide +kernel
theorem d_R_readBit_103 : decode (xC k_R_readBit) 103 = .ok (.getfield 9, 3) := by decide +kernel
theorem d_R_readBit_106 : decode (xC k_R_readBit) 106 = .ok (.iconst 1, 1) := by decide +kernel
theorem d_R_readBit_107 : decode (xC k_R_readBit) 107 = .ok (.iadd, 1) := by decide +kernel
theorem d_R_readBit_108 : decode (xC k_R_readBit) 108 = .ok (.putfield 9, 3) := by decide +kernel
theorem d_R_readBit_111 : decode (xC k_R_readBit) 111 = .ok (.aload_n 3, 1) := by decide +kernel
theorem d_R_readBit_112 : decode (xC k_R_readBit) 112 = .ok (.areturn, 1) := by decide +kernel
theorem d_R_readBit_113 : decode (xC k_R_readBit) 113 = .ok (.aload_n 0, 1) := by decide +kernel
theorem d_R_readBit_114 : decode (xC k_R_readBit) 114 = .ok (.invokevirtual 54, 3) := by decide +kernel
theorem d_R_readBit_117 : decode (xC k_R_readBit) 117 = .ok (.areturn, 1) := by decide +kernel
theorem d_R_readName_0 : decode (xC k_R_readName) 0 = .ok (.aload_n 0, 1) := by decide +kernel
theorem d_R_readName_1 : decode (xC k_R_readName) 1 = .ok (.invokevirtual 35, 3) := by decide +kernel
theorem d_R_readName_4 : decode (xC k_R_readName) 4 = .ok (.istore_n 1, 1) := by decide +kernel
theorem d_R_readName_5 : decode (xC k_R_readName) 5 = .ok (.iload_n 1, 1) := by decide +kernel
theorem d_R_readName_6 : decode (xC k_R_readName) 6 = .ok (.invokestatic 58, 3) := by decide +kernel
theorem d_R_readName_9 : decode (xC k_R_readName) 9 = .ok (.ifCond .ne 5, 3) := by decide +kernel
theorem d_R_readName_12 : decode (xC k_R_readName) 12 = .ok (.aconst_null, 1) := by decide +kernel
theorem d_R_readName_13 : decode (xC k_R_readName) 13 = .ok (.areturn, 1) := by decide +kernel
theorem d_R_readName_14 : decode (xC k_R_readName) 14 = .ok (.aload_n 0, 1) := by decide +kernel
theorem d_R_readName_15 : decode (xC k_R_readName) 15 = .ok (.dup, 1) := by decide +kernel
theorem d_R_readName_16 : decode (xC k_R_readName) 16 = .ok (.getfield 9, 3) := by decide +kernel
theorem d_R_readName_19 : decode (xC k_R_readName) 19 = .ok (.iconst 1, 1) := by decide +kernel
theorem d_R_readName_20 : decode (xC k_R_readName) 20 = .ok (.iadd, 1) := by decide +kernel
theorem d_R_readName_21 : decode (xC k_R_readName) 21 = .ok (.putfield 9, 3) := by decide +kernel
theorem d_R_readName_24 : decode (xC k_R_readName) 24 = .ok (.aload_n 0, 1) := by decide +kernel
theorem d_R_readName_25 : decode (xC k_R_readName) 25 = .ok (.invokevirtual 35, 3) := by decide +kernel
theorem d_R_readName_28 : decode (xC k_R_readName) 28 = .ok (.istore_n 2, 1) := by decide +kernel
theorem d_R_readName_29 : decode (xC k_R_readName) 29 = .ok (.iload_n 2, 1) := by decide +kernel
theorem d_R_readName_30 : decode (xC k_R_readName) 30 = .ok (.bipush 60, 2) := by decide +kernel
theorem d_R_readName_32 : decode (xC k_R_readName) 32 = .ok (.if_icmp .eq 17, 3) := by decide +kernel
theorem d_R_readName_35 : decode (xC k_R_readName) 35 = .ok (.iload_n 2, 1) := by decide +kernel
theorem d_R_readName_36 : decode (xC k_R_readName) 36 = .ok (.bipush 61, 2) := by decide +kernel
theorem d_R_readName_38 : decode (xC k_R_readName) 38 = .ok (.if_icmp .eq 11, 3) := by decide +kernel
theorem d_R_readName_41 : decode (xC k_R_readName) 41 = .ok (.iload_n 2, 1) := by decide +kernel
theorem d_R_readName_42 : decode (xC k_R_readName) 42 = .ok (.bipush 62, 2) := by decide +kernel
theorem d_R_readName_44 : decode (xC k_R_readName) 44 = .ok (.if_icmp .eq 5, 3) := by decide +kernel
theorem d_R_readName_47 : decode (xC k_R_readName) 47 = .ok (.aconst_null, 1) := by decide +kernel
theorem d_R_readName_48 : decode (xC k_R_readName) 48 = .ok (.areturn, 1) := by decide +kernel
theorem d_R_readName_49 : decode (xC k_R_readName) 49 = .ok (.aload_n 0, 1) := by decide +kernel
theorem d_R_readName_50 : decode (xC k_R_readName) 50 = .ok (.dup, 1) := by decide +kernel
theorem d_R_readName_51 : decode (xC k_R_readName) 51 = .ok (.getfield 9, 3) := by decide +kernel
theorem d_R_readName_54 : decode (xC k_R_readName) 54 = .ok (.iconst 1, 1) := by decide +kernel
theorem d_R_readName_55 : decode (xC k_R_readName) 55 = .ok (.iadd, 1) := by decide +kernel
theorem d_R_readName_56 : decode (xC k_R_readName) 56 = .ok (.putfield 9, 3) := by decide +kernel
theorem d_R_readName_59 : decode (xC k_R_readName) 59 = .ok (.aload_n 0, 1) := by decide +kernel
theorem d_R_readName_60 : decode (xC k_R_readName) 60 = .ok (.invokevirtual 35, 3) := by decide +kernel
theorem d_R_readName_63 : decode (xC k_R_readName) 63 = .ok (.invokestatic 62, 3) := by decide +kernel
theorem d_R_readName_66 : decode (xC k_R_readName) 66 = .ok (.ifCond .ne 5, 3) := by decide +kernel
theorem d_R_readName_69 : decode (xC k_R_readName) 69 = .ok (.aconst_null, 1) := by decide +kernel
theorem d_R_readName_70 : decode (xC k_R_readName) 70 = .ok (.areturn, 1) := by decide +kernel
theorem d_R_readName_71 : decode (xC k_R_readName) 71 = .ok (.new 43, 3) := by decide +kernel
theorem d_R_readName_74 : decode (xC k_R_readName) 74 = .ok (.dup, 1) := by decide +kernel
theorem d_R_readName_75 : decode (xC k_R_readName) 75 = .ok (.iload_n 2, 1) := by decide +kernel
theorem d_R_readName_76 : decode (xC k_R_readName) 76 = .ok (.iload_n 1, 1) := by decide +kernel
theorem d_R_readName_77 : decode (xC k_R_readName) 77 = .ok (.aload_n 0, 1) := by decide +kernel
theorem d_R_readName_78 : decode (xC k_R_readName) 78 = .ok (.invokevirtual 65, 3) := by decide +kernel
theorem d_R_readName_81 : decode (xC k_R_readName) 81 = .ok (.invokespecial 68, 3) := by decide +kernel
theorem d_R_readName_84 : decode (xC k_R_readName) 84 = .ok (.areturn, 1) := by decide +kernel
theorem d_R_readNumber_0 : decode (xC k_R_readNumber) 0 = .ok (.iconst 0, 1) := by decide +kernel
theorem d_R_readNumber_1 : decode (xC k_R_readNumber) 1 = .ok (.istore_n 1, 1) := by decide +kernel
theorem d_R_readNumber_2 : decode (xC k_R_readNumber) 2 = .ok (.iconst 0, 1) := by decide +kernel
theorem d_R_readNumber_3 : decode (xC k_R_readNumber) 3 = .ok (.istore_n 2, 1) := by decide +kernel
theorem d_R_readNumber_4 : decode (xC k_R_readNumber) 4 = .ok (.iload_n 2, 1) := by decide +kernel
theorem d_R_readNumber_5 : decode (xC k_R_readNumber) 5 = .ok (.bipush 6, 2) := by decide +kernel
theorem d_R_readNumber_7 : decode (xC k_R_readNumber) 7 = .ok (.if_icmp .ge 42, 3) := by decide +kernel
theorem d_R_readNumber_10 : decode (xC k_R_readNumber) 10 = .ok (.aload_n 0, 1) := by decide +kernel
theorem d_R_readNumber_11 : decode (xC k_R_readNumber) 11 = .ok (.invokevirtual 35, 3) := by decide +kernel
theorem d_R_readNumber_14 : decode (xC k_R_readNumber) 14 = .ok (.invokestatic 62, 3) := by decide +kernel
theorem d_R_readNumber_17 : decode (xC k_R_readNumber) 17 = .ok (.ifCond .eq 32, 3) := by decide +kernel
theorem d_R_readNumber_20 : decode (xC k_R_readNumber) 20 = .ok (.bipush 10, 2) := by decide +kernel
theorem d_R_readNumber_22 : decode (xC k_R_readNumber) 22 = .ok (.iload_n 1, 1) := by decide +kernel
theorem d_R_readNumber_23 : decode (xC k_R_readNumber) 23 = .ok (.imul, 1) := by decide +kernel
theorem d_R_readNumber_24 : decode (xC k_R_readNumber) 24 = .ok (.aload_n 0, 1) := by decide +kernel
theorem d_R_readNumber_25 : decode (xC k_R_readNumber) 25 = .ok (.invokevirtual 35, 3) := by decide +kernel
theorem d_R_readNumber_28 : decode (xC k_R_readNumber) 28 = .ok (.bipush 48, 2) := by decide +kernel
theorem d_R_readNumber_30 : decode (xC k_R_readNumber) 30 = .ok (.isub, 1) := by decide +kernel
theorem d_R_readNumber_31 : decode (xC k_R_readNumber) 31 = .ok (.iadd, 1) := by decide +kernel
theorem d_R_readNumber_32 : decode (xC k_R_readNumber) 32 = .ok (.istore_n 1, 1) := by decide +kernel
theorem d_R_readNumber_33 : decode (xC k_R_readNumber) 33 = .ok (.aload_n 0, 1) := by decide +kernel
theorem d_R_readNumber_34 : decode (xC k_R_readNumber) 34 = .ok (.dup, 1) := by decide +kernel
theorem d_R_readNumber_35 : decode (xC k_R_readNumber) 35 = .ok (.getfield 9, 3) := by decide +kernel
theorem d_R_readNumber_38 : decode (xC k_R_readNumber) 38 = .ok (.iconst 1, 1) := by decide +kernel
theorem d_R_readNumber_39 : decode (xC k_R_readNumber) 39 = .ok (.iadd, 1) := by decide +kernel
theorem d_R_readNumber_40 : decode (xC k_R_readNumber) 40 = .ok (.putfield 9, 3) := by decide +kernel
theorem d_R_readNumber_43 : decode (xC k_R_readNumber) 43 = .ok (.iinc 2 1, 3) := by decide +kernel
theorem d_R_readNumber_46 : decode (xC k_R_readNumber) 46 = .ok (.goto (-42), 3) := by decide +kernel
theorem d_R_readNumber_49 : decode (xC k_R_readNumber) 49 = .ok (.iload_n 1, 1) := by decide +kernel
theorem d_R_readNumber_50 : decode (xC k_R_readNumber) 50 = .ok (.ireturn, 1) := by decide +kernel
theorem d_R_sign_0 : decode (xC k_R_sign) 0 = .ok (.aload_n 0, 1) := by decide +kernel
theorem d_R_sign_1 : decode (xC k_R_sign) 1 = .ok (.getfield 15, 3) := by decide +kernel
theorem d_R_sign_4 : decode (xC k_R_sign) 4 = .ok (.aload_n 0, 1) := by decide +kernel
theorem d_R_sign_5 : decode (xC k_R_sign) 5 = .ok (.getfield 9, 3) := by decide +kernel
theorem d_R_sign_8 : decode (xC k_R_sign) 8 = .ok (.invokevirtual 71, 3) := by decide +kernel
theorem d_R_sign_11 : decode (xC k_R_sign) 11 = .ok (.ireturn, 1) := by decide +kernel
theorem d_R_isName_0 : decode (xC k_R_isName) 0 = .ok (.iload_n 0, 1) := by decide +kernel
theorem d_R_isName_1 : decode (xC k_R_isName) 1 = .ok (.bipush 97, 2) := by decide +kernel
theorem d_R_isName_3 : decode (xC k_R_isName) 3 = .ok (.if_icmp .lt 9, 3) := by decide +kernel
theorem d_R_isName_6 : decode (xC k_R_isName) 6 = .ok (.iload_n 0, 1) := by decide +kernel
theorem d_R_isName_7 : decode (xC k_R_isName) 7 = .ok (.bipush 104, 2) := by decide +kernel
theorem d_R_isName_9 : decode (xC k_R_isName) 9 = .ok (.if_icmp .le 15, 3) := by decide +kernel
theorem d_R_isName_12 : decode (xC k_R_isName) 12 = .ok (.iload_n 0, 1) := by decide +kernel
theorem d_R_isName_13 : decode (xC k_R_isName) 13 = .ok (.bipush 121, 2) := by decide +kernel
theorem d_R_isName_15 : decode (xC k_R_isName) 15 = .ok (.if_icmp .eq 9, 3) := by decide +kernel
theorem d_R_isName_18 : decode (xC k_R_isName) 18 = .ok (.iload_n 0, 1) := by decide +kernel
theorem d_R_isName_19 : decode (xC k_R_isName) 19 = .ok (.bipush 122, 2) := by decide +kernel
theorem d_R_isName_21 : decode (xC k_R_isName) 21 = .ok (.if_icmp .ne 7, 3) := by decide +kernel
theorem d_R_isName_24 : decode (xC k_R_isName) 24 = .ok (.iconst 1, 1) := by decide +kernel
theorem d_R_isName_25 : decode (xC k_R_isName) 25 = .ok (.goto 4, 3) := by decide +kernel
theorem d_R_isName_28 : decode (xC k_R_isName) 28 = .ok (.iconst 0, 1) := by decide +kernel
theorem d_R_isName_29 : decode (xC k_R_isName) 29 = .ok (.ireturn, 1) := by decide +kernel
theorem d_R_isDigit_0 : decode (xC k_R_isDigit) 0 = .ok (.iload_n 0, 1) := by decide +kernel
theorem d_R_isDigit_1 : decode (xC k_R_isDigit) 1 = .ok (.bipush 48, 2) := by decide +kernel
theorem d_R_isDigit_3 : decode (xC k_R_isDigit) 3 = .ok (.if_icmp .lt 13, 3) := by decide +kernel
theorem d_R_isDigit_6 : decode (xC k_R_isDigit) 6 = .ok (.iload_n 0, 1) := by decide +kernel
theorem d_R_isDigit_7 : decode (xC k_R_isDigit) 7 = .ok (.bipush 57, 2) := by decide +kernel
theorem d_R_isDigit_9 : decode (xC k_R_isDigit) 9 = .ok (.if_icmp .gt 7, 3) := by decide +kernel
theorem d_R_isDigit_12 : decode (xC k_R_isDigit) 12 = .ok (.iconst 1, 1) := by decide +kernel
theorem d_R_isDigit_13 : decode (xC k_R_isDigit) 13 = .ok (.goto 4, 3) := by decide +kernel
theorem d_R_isDigit_16 : decode (xC k_R_isDigit) 16 = .ok (.iconst 0, 1) := by decide +kernel
theorem d_R_isDigit_17 : decode (xC k_R_isDigit) 17 = .ok (.ireturn, 1) := by decide +kernel
theorem d_W_init_0 : decode (xC k_W_init) 0 = .ok (.aload_n 0, 1) := by decide +kernel
theorem d_W_init_1 : decode (xC k_W_init) 1 = .ok (.invokespecial 3, 3) := by decide +kernel
theorem d_W_init_4 : decode (xC k_W_init) 4 = .ok (.aload_n 0, 1) := by decide +kernel
theorem d_W_init_5 : decode (xC k_W_init) 5 = .ok (.sipush 240, 3) := by decide +kernel
theorem d_W_init_8 : decode (xC k_W_init) 8 = .ok (.newarray .int, 2) := by decide +kernel
theorem d_W_init_10 : decode (xC k_W_init) 10 = .ok (.putfield 9, 3) := by decide +kernel
theorem d_W_init_13 : decode (xC k_W_init) 13 = .ok (.aload_n 0, 1) := by decide +kernel
theorem d_W_init_14 : decode (xC k_W_init) 14 = .ok (.iconst 0, 1) := by decide +kernel
theorem d_W_init_15 : decode (xC k_W_init) 15 = .ok (.putfield 15, 3) := by decide +kernel
theorem d_W_init_18 : decode (xC k_W_init) 18 = .ok (.return_, 1) := by decide +kernel
theorem d_W_clear_0 : decode (xC k_W_clear) 0 = .ok (.aload_n 0, 1) := by decide +kernel
theorem d_W_clear_1 : decode (xC k_W_clear) 1 = .ok (.iconst 0, 1) := by decide +kernel
theorem d_W_clear_2 : decode (xC k_W_clear) 2 = .ok (.putfield 15, 3) := by decide +kernel
theorem d_W_clear_5 : decode (xC k_W_clear) 5 = .ok (.return_, 1) := by decide +kernel
theorem d_W_add_0 : decode (xC k_W_add) 0 = .ok (.aload_n 0, 1) := by decide +kernel
theorem d_W_add_1 : decode (xC k_W_add) 1 = .ok (.getfield 15, 3) := by decide +kernel
theorem d_W_add_4 : decode (xC k_W_add) 4 = .ok (.sipush 240, 3) := by decide +kernel
theorem d_W_add_7 : decode (xC k_W_add) 7 = .ok (.if_icmp .ge 23, 3) := by decide +kernel
theorem d_W_add_10 : decode (xC k_W_add) 10 = .ok (.aload_n 0, 1) := by decide +kernel
theorem d_W_add_11 : decode (xC k_W_add) 11 = .ok (.getfield 9, 3) := by decide +kernel
theorem d_W_add_14 : decode (xC k_W_add) 14 = .ok (.aload_n 0, 1) := by decide +kernel
theorem d_W_add_15 : decode (xC k_W_add) 15 = .ok (.getfield 15, 3) := by decide +kernel
theorem d_W_add_18 : decode (xC k_W_add) 18 = .ok (.iload_n 1, 1) := by decide +kernel
theorem d_W_add_19 : decode (xC k_W_add) 19 = .ok (.iastore, 1) := by decide +kernel
theorem d_W_add_20 : decode (xC k_W_add) 20 = .ok (.aload_n 0, 1) := by decide +kernel
theorem d_W_add_21 : decode (xC k_W_add) 21 = .ok (.dup, 1) := by decide +kernel
theorem d_W_add_22 : decode (xC k_W_add) 22 = .ok (.getfield 15, 3) := by decide +kernel
theorem d_W_add_25 : decode (xC k_W_add) 25 = .ok (.iconst 1, 1) := by decide +kernel
theorem d_W_add_26 : decode (xC k_W_add) 26 = .ok (.iadd, 1) := by decide +kernel
theorem d_W_add_27 : decode (xC k_W_add) 27 = .ok (.putfield 15, 3) := by decide +kernel
theorem d_W_add_30 : decode (xC k_W_add) 30 = .ok (.return_, 1) := by decide +kernel
theorem d_W_addNumber_0 : decode (xC k_W_addNumber) 0 = .ok (.aload_n 0, 1) := by decide +kernel
theorem d_W_addNumber_1 : decode (xC k_W_addNumber) 1 = .ok (.getfield 15, 3) := by decide +kernel
theorem d_W_addNumber_4 : decode (xC k_W_addNumber) 4 = .ok (.iconst 1, 1) := by decide +kernel
theorem d_W_addNumber_5 : decode (xC k_W_addNumber) 5 = .ok (.iadd, 1) := by decide +kernel
theorem d_W_addNumber_6 : decode (xC k_W_addNumber) 6 = .ok (.istore_n 2, 1) := by decide +kernel
theorem d_W_addNumber_7 : decode (xC k_W_addNumber) 7 = .ok (.iload_n 1, 1) := by decide +kernel
theorem d_W_addNumber_8 : decode (xC k_W_addNumber) 8 = .ok (.bipush 10, 2) := by decide +kernel
theorem d_W_addNumber_10 : decode (xC k_W_addNumber) 10 = .ok (.idiv, 1) := by decide +kernel
theorem d_W_addNumber_11 : decode (xC k_W_addNumber) 11 = .ok (.istore_n 3, 1) := by decide +kernel
theorem d_W_addNumber_12 : decode (xC k_W_addNumber) 12 = .ok (.iload_n 3, 1) := by decide +kernel
theorem d_W_addNumber_13 : decode (xC k_W_addNumber) 13 = .ok (.ifCond .le 14, 3) := by decide +kernel
theorem d_W_addNumber_16 : decode (xC k_W_addNumber) 16 = .ok (.iinc 2 1, 3) := by decide +kernel
theorem d_W_addNumber_19 : decode (xC k_W_addNumber) 19 = .ok (.iload_n 3, 1) := by decide +kernel
theorem d_W_addNumber_20 : decode (xC k_W_addNumber) 20 = .ok (.bipush 10, 2) := by decide +kernel
theorem d_W_addNumber_22 : decode (xC k_W_addNumber) 22 = .ok (.idiv, 1) := by decide +kernel
theorem d_W_addNumber_23 : decode (xC k_W_addNumber) 23 = .ok (.istore_n 3, 1) := by decide +kernel
theorem d_W_addNumber_24 : decode (xC k_W_addNumber) 24 = .ok (.goto (-12), 3) := by decide +kernel
theorem d_W_addNumber_27 : decode (xC k_W_addNumber) 27 = .ok (.iload_n 2, 1) := by decide +kernel
theorem d_W_addNumber_28 : decode (xC k_W_addNumber) 28 = .ok (.sipush 240, 3) := by decide +kernel
theorem d_W_addNumber_31 : decode (xC k_W_addNumber) 31 = .ok (.if_icmp .le 4, 3) := by decide +kernel
theorem d_W_addNumber_34 : decode (xC k_W_addNumber) 34 = .ok (.return_, 1) := by decide +kernel
theorem d_W_addNumber_35 : decode (xC k_W_addNumber) 35 = .ok (.iload_n 1, 1) := by decide +kernel
theorem d_W_addNumber_36 : decode (xC k_W_addNumber) 36 = .ok (.istore_n 3, 1) := by decide +kernel
theorem d_W_addNumber_37 : decode (xC k_W_addNumber) 37 = .ok (.iload_n 2, 1) := by decide +kernel
theorem d_W_addNumber_38 : decode (xC k_W_addNumber) 38 = .ok (.iconst 1, 1) := by decide +kernel
theorem d_W_addNumber_39 : decode (xC k_W_addNumber) 39 = .ok (.isub, 1) := by decide +kernel
theorem d_W_addNumber_40 : decode (xC k_W_addNumber) 40 = .ok (.istore 4, 2) := by decide +kernel
theorem d_W_addNumber_42 : decode (xC k_W_addNumber) 42 = .ok (.iload 4, 2) := by decide +kernel
theorem d_W_addNumber_44 : decode (xC k_W_addNumber) 44 = .ok (.aload_n 0, 1) := by decide +kernel
theorem d_W_addNumber_45 : decode (xC k_W_addNumber) 45 = .ok (.getfield 15, 3) := by decide +kernel
theorem d_W_addNumber_48 : decode (xC k_W_addNumber) 48 = .ok (.if_icmp .lt 28, 3) := by decide +kernel
theorem d_W_addNumber_51 : decode (xC k_W_addNumber) 51 = .ok (.aload_n 0, 1) := by decide +kernel
theorem d_W_addNumber_52 : decode (xC k_W_addNumber) 52 = .ok (.getfield 9, 3) := by decide +kernel
theorem d_W_addNumber_55 : decode (xC k_W_addNumber) 55 = .ok (.iload 4, 2) := by decide +kernel
theorem d_W_addNumber_57 : decode (xC k_W_addNumber) 57 = .ok (.bipush 48, 2) := by decide +kernel
theorem d_W_addNumber_59 : decode (xC k_W_addNumber) 59 = .ok (.iload_n 3, 1) := by decide +kernel
theorem d_W_addNumber_60 : decode (xC k_W_addNumber) 60 = .ok (.bipush 10, 2) := by decide +kernel
theorem d_W_addNumber_62 : decode (xC k_W_addNumber) 62 = .ok (.irem, 1) := by decide +kernel
theorem d_W_addNumber_63 : decode (xC k_W_addNumber) 63 = .ok (.iadd, 1) := by decide +kernel
theorem d_W_addNumber_64 : decode (xC k_W_addNumber) 64 = .ok (.iastore, 1) := by decide +kernel
theorem d_W_addNumber_65 : decode (xC k_W_addNumber) 65 = .ok (.iload_n 3, 1) := by decide +kernel
theorem d_W_addNumber_66 : decode (xC k_W_addNumber) 66 = .ok (.bipush 10, 2) := by decide +kernel
theorem d_W_addNumber_68 : decode (xC k_W_addNumber) 68 = .ok (.idiv, 1) := by decide +kernel
theorem d_W_addNumber_69 : decode (xC k_W_addNumber) 69 = .ok (.istore_n 3, 1) := by decide +kernel
theorem d_W_addNumber_70 : decode (xC k_W_addNumber) 70 = .ok (.iinc 4 (-1), 3) := by decide +kernel
theorem d_W_addNumber_73 : decode (xC k_W_addNumber) 73 = .ok (.goto (-31), 3) := by decide +kernel
theorem d_W_addNumber_76 : decode (xC k_W_addNumber) 76 = .ok (.aload_n 0, 1) := by decide +kernel
theorem d_W_addNumber_77 : decode (xC k_W_addNumber) 77 = .ok (.iload_n 2, 1) := by decide +kernel
theorem d_W_addNumber_78 : decode (xC k_W_addNumber) 78 = .ok (.putfield 15, 3) := by decide +kernel
theorem d_W_addNumber_81 : decode (xC k_W_addNumber) 81 = .ok (.return_, 1) := by decide +kernel
theorem d_W_signAt_0 : decode (xC k_W_signAt) 0 = .ok (.iload_n 1, 1) := by decide +kernel
theorem d_W_signAt_1 : decode (xC k_W_signAt) 1 = .ok (.ifCond .lt 20, 3) := by decide +kernel
theorem d_W_signAt_4 : decode (xC k_W_signAt) 4 = .ok (.iload_n 1, 1) := by decide +kernel
theorem d_W_signAt_5 : decode (xC k_W_signAt) 5 = .ok (.aload_n 0, 1) := by decide +kernel
theorem d_W_signAt_6 : decode (xC k_W_signAt) 6 = .ok (.getfield 15, 3) := by decide +kernel
theorem d_W_signAt_9 : decode (xC k_W_signAt) 9 = .ok (.if_icmp .ge 12, 3) := by decide +kernel
theorem d_W_signAt_12 : decode (xC k_W_signAt) 12 = .ok (.aload_n 0, 1) := by decide +kernel
theorem d_W_signAt_13 : decode (xC k_W_signAt) 13 = .ok (.getfield 9, 3) := by decide +kernel
theorem d_W_signAt_16 : decode (xC k_W_signAt) 16 = .ok (.iload_n 1, 1) := by decide +kernel
theorem d_W_signAt_17 : decode (xC k_W_signAt) 17 = .ok (.iaload, 1) := by decide +kernel
theorem d_W_signAt_18 : decode (xC k_W_signAt) 18 = .ok (.goto 4, 3) := by decide +kernel
theorem d_W_signAt_21 : decode (xC k_W_signAt) 21 = .ok (.iconst 0, 1) := by decide +kernel
theorem d_W_signAt_22 : decode (xC k_W_signAt) 22 = .ok (.ireturn, 1) := by decide +kernel
theorem d_P_init_0 : decode (xC k_P_init) 0 = .ok (.aload_n 0, 1) := by decide +kernel
theorem d_P_init_1 : decode (xC k_P_init) 1 = .ok (.invokespecial 1, 3) := by decide +kernel
theorem d_P_init_4 : decode (xC k_P_init) 4 = .ok (.aload_n 0, 1) := by decide +kernel
theorem d_P_init_5 : decode (xC k_P_init) 5 = .ok (.iload_n 1, 1) := by decide +kernel
theorem d_P_init_6 : decode (xC k_P_init) 6 = .ok (.putfield 7, 3) := by decide +kernel
theorem d_P_init_9 : decode (xC k_P_init) 9 = .ok (.aload_n 0, 1) := by decide +kernel
theorem d_P_init_10 : decode (xC k_P_init) 10 = .ok (.iload_n 2, 1) := by decide +kernel
theorem d_P_init_11 : decode (xC k_P_init) 11 = .ok (.putfield 13, 3) := by decide +kernel
theorem d_P_init_14 : decode (xC k_P_init) 14 = .ok (.aload_n 0, 1) := by decide +kernel
theorem d_P_init_15 : decode (xC k_P_init) 15 = .ok (.iload_n 3, 1) := by decide +kernel
theorem d_P_init_16 : decode (xC k_P_init) 16 = .ok (.putfield 16, 3) := by decide +kernel
theorem d_P_init_19 : decode (xC k_P_init) 19 = .ok (.return_, 1) := by decide +kernel
theorem d_P_hasDay_0 : decode (xC k_P_hasDay) 0 = .ok (.iload_n 1, 1) := by decide +kernel
theorem d_P_hasDay_1 : decode (xC k_P_hasDay) 1 = .ok (.aload_n 0, 1) := by decide +kernel
theorem d_P_hasDay_2 : decode (xC k_P_hasDay) 2 = .ok (.getfield 13, 3) := by decide +kernel
theorem d_P_hasDay_5 : decode (xC k_P_hasDay) 5 = .ok (.if_icmp .lt 15, 3) := by decide +kernel
theorem d_P_hasDay_8 : decode (xC k_P_hasDay) 8 = .ok (.iload_n 1, 1) := by decide +kernel
theorem d_P_hasDay_9 : decode (xC k_P_hasDay) 9 = .ok (.aload_n 0, 1) := by decide +kernel
theorem d_P_hasDay_10 : decode (xC k_P_hasDay) 10 = .ok (.getfield 16, 3) := by decide +kernel
theorem d_P_hasDay_13 : decode (xC k_P_hasDay) 13 = .ok (.if_icmp .gt 7, 3) := by decide +kernel
theorem d_P_hasDay_16 : decode (xC k_P_hasDay) 16 = .ok (.iconst 1, 1) := by decide +kernel
theorem d_P_hasDay_17 : decode (xC k_P_hasDay) 17 = .ok (.goto 4, 3) := by decide +kernel
theorem d_P_hasDay_20 : decode (xC k_P_hasDay) 20 = .ok (.iconst 0, 1) := by decide +kernel
theorem d_P_hasDay_21 : decode (xC k_P_hasDay) 21 = .ok (.ireturn, 1) := by decide +kernel
theorem d_P_length_0 : decode (xC k_P_length) 0 = .ok (.aload_n 0, 1) := by decide +kernel
theorem d_P_length_1 : decode (xC k_P_length) 1 = .ok (.getfield 16, 3) := by decide +kernel
theorem d_P_length_4 : decode (xC k_P_length) 4 = .ok (.aload_n 0, 1) := by decide +kernel
theorem d_P_length_5 : decode (xC k_P_length) 5 = .ok (.getfield 13, 3) := by decide +kernel
theorem d_P_length_8 : decode (xC k_P_length) 8 = .ok (.isub, 1) := by decide +kernel
theorem d_P_length_9 : decode (xC k_P_length) 9 = .ok (.iconst 1, 1) := by decide +kernel
theorem d_P_length_10 : decode (xC k_P_length) 10 = .ok (.iadd, 1) := by decide +kernel
theorem d_P_length_11 : decode (xC k_P_length) 11 = .ok (.ireturn, 1) := by decide +kernel
