theorem d_L_init_0 : decode (xC k_L_init) 0 = .ok (.aload_n 0, 1) := by decide +kernel
theorem d_L_init_1 : decode (xC k_L_init) 1 = .ok (.invokespecial 1, 3) := by decide +kernel
theorem d_L_init_4 : decode (xC k_L_init) 4 = .ok (.aload_n 0, 1) := by decide +kernel
theorem d_L_init_5 : decode (xC k_L_init) 5 = .ok (.new 7, 3) := by decide +kernel
theorem d_L_init_8 : decode (xC k_L_init) 8 = .ok (.dup, 1) := by decide +kernel
theorem d_L_init_9 : decode (xC k_L_init) 9 = .ok (.invokespecial 9, 3) := by decide +kernel
theorem d_L_init_12 : decode (xC k_L_init) 12 = .ok (.putfield 10, 3) := by decide +kernel
theorem d_L_init_15 : decode (xC k_L_init) 15 = .ok (.aload_n 0, 1) := by decide +kernel
theorem d_L_init_16 : decode (xC k_L_init) 16 = .ok (.new 7, 3) := by decide +kernel
theorem d_L_init_19 : decode (xC k_L_init) 19 = .ok (.dup, 1) := by decide +kernel
theorem d_L_init_20 : decode (xC k_L_init) 20 = .ok (.invokespecial 9, 3) := by decide +kernel
theorem d_L_init_23 : decode (xC k_L_init) 23 = .ok (.putfield 16, 3) := by decide +kernel
theorem d_L_init_26 : decode (xC k_L_init) 26 = .ok (.aload_n 0, 1) := by decide +kernel
theorem d_L_init_27 : decode (xC k_L_init) 27 = .ok (.bipush 8, 2) := by decide +kernel
theorem d_L_init_29 : decode (xC k_L_init) 29 = .ok (.anewarray 19, 3) := by decide +kernel
theorem d_L_init_32 : decode (xC k_L_init) 32 = .ok (.putfield 21, 3) := by decide +kernel
theorem d_L_init_35 : decode (xC k_L_init) 35 = .ok (.aload_n 0, 1) := by decide +kernel
theorem d_L_init_36 : decode (xC k_L_init) 36 = .ok (.bipush 8, 2) := by decide +kernel
theorem d_L_init_38 : decode (xC k_L_init) 38 = .ok (.anewarray 25, 3) := by decide +kernel
theorem d_L_init_41 : decode (xC k_L_init) 41 = .ok (.putfield 27, 3) := by decide +kernel
theorem d_L_init_44 : decode (xC k_L_init) 44 = .ok (.aload_n 0, 1) := by decide +kernel
theorem d_L_init_45 : decode (xC k_L_init) 45 = .ok (.bipush 20, 2) := by decide +kernel
theorem d_L_init_47 : decode (xC k_L_init) 47 = .ok (.anewarray 31, 3) := by decide +kernel
theorem d_L_init_50 : decode (xC k_L_init) 50 = .ok (.putfield 33, 3) := by decide +kernel
theorem d_L_init_53 : decode (xC k_L_init) 53 = .ok (.aload_n 0, 1) := by decide +kernel
theorem d_L_init_54 : decode (xC k_L_init) 54 = .ok (.bipush 30, 2) := by decide +kernel
theorem d_L_init_56 : decode (xC k_L_init) 56 = .ok (.anewarray 37, 3) := by decide +kernel
theorem d_L_init_59 : decode (xC k_L_init) 59 = .ok (.putfield 39, 3) := by decide +kernel
theorem d_L_init_62 : decode (xC k_L_init) 62 = .ok (.aload_n 0, 1) := by decide +kernel
theorem d_L_init_63 : decode (xC k_L_init) 63 = .ok (.iconst 0, 1) := by decide +kernel
theorem d_L_init_64 : decode (xC k_L_init) 64 = .ok (.putfield 43, 3) := by decide +kernel
theorem d_L_init_67 : decode (xC k_L_init) 67 = .ok (.aload_n 0, 1) := by decide +kernel
theorem d_L_init_68 : decode (xC k_L_init) 68 = .ok (.iconst 0, 1) := by decide +kernel
theorem d_L_init_69 : decode (xC k_L_init) 69 = .ok (.putfield 47, 3) := by decide +kernel
theorem d_L_init_72 : decode (xC k_L_init) 72 = .ok (.aload_n 0, 1) := by decide +kernel
theorem d_L_init_73 : decode (xC k_L_init) 73 = .ok (.iconst 0, 1) := by decide +kernel
theorem d_L_init_74 : decode (xC k_L_init) 74 = .ok (.putfield 50, 3) := by decide +kernel
theorem d_L_init_77 : decode (xC k_L_init) 77 = .ok (.iconst 0, 1) := by decide +kernel
theorem d_L_init_78 : decode (xC k_L_init) 78 = .ok (.istore_n 1, 1) := by decide +kernel
theorem d_L_init_79 : decode (xC k_L_init) 79 = .ok (.iload_n 1, 1) := by decide +kernel
theorem d_L_init_80 : decode (xC k_L_init) 80 = .ok (.bipush 8, 2) := by decide +kernel
theorem d_L_init_82 : decode (xC k_L_init) 82 = .ok (.if_icmp .ge 22, 3) := by decide +kernel
theorem d_L_init_85 : decode (xC k_L_init) 85 = .ok (.aload_n 0, 1) := by decide +kernel
theorem d_L_init_86 : decode (xC k_L_init) 86 = .ok (.getfield 27, 3) := by decide +kernel
theorem d_L_init_89 : decode (xC k_L_init) 89 = .ok (.iload_n 1, 1) := by decide +kernel
theorem d_L_init_90 : decode (xC k_L_init) 90 = .ok (.new 25, 3) := by decide +kernel
theorem d_L_init_93 : decode (xC k_L_init) 93 = .ok (.dup, 1) := by decide +kernel
theorem d_L_init_94 : decode (xC k_L_init) 94 = .ok (.invokespecial 53, 3) := by decide +kernel
theorem d_L_init_97 : decode (xC k_L_init) 97 = .ok (.aastore, 1) := by decide +kernel
theorem d_L_init_98 : decode (xC k_L_init) 98 = .ok (.iinc 1 1, 3) := by decide +kernel
theorem d_L_init_101 : decode (xC k_L_init) 101 = .ok (.goto (-22), 3) := by decide +kernel
theorem d_L_init_104 : decode (xC k_L_init) 104 = .ok (.return_, 1) := by decide +kernel
theorem d_L_unit_0 : decode (xC k_L_unit) 0 = .ok (.aload_n 0, 1) := by decide +kernel
theorem d_L_unit_1 : decode (xC k_L_unit) 1 = .ok (.getfield 10, 3) := by decide +kernel
theorem d_L_unit_4 : decode (xC k_L_unit) 4 = .ok (.getfield 54, 3) := by decide +kernel
theorem d_L_unit_7 : decode (xC k_L_unit) 7 = .ok (.bipush 80, 2) := by decide +kernel
theorem d_L_unit_9 : decode (xC k_L_unit) 9 = .ok (.if_icmp .lt 13, 3) := by decide +kernel
theorem d_L_unit_12 : decode (xC k_L_unit) 12 = .ok (.new 57, 3) := by decide +kernel
theorem d_L_unit_15 : decode (xC k_L_unit) 15 = .ok (.dup, 1) := by decide +kernel
theorem d_L_unit_16 : decode (xC k_L_unit) 16 = .ok (.ldc 59, 2) := by decide +kernel
theorem d_L_unit_18 : decode (xC k_L_unit) 18 = .ok (.invokespecial 61, 3) := by decide +kernel
theorem d_L_unit_21 : decode (xC k_L_unit) 21 = .ok (.athrow, 1) := by decide +kernel
theorem d_L_unit_22 : decode (xC k_L_unit) 22 = .ok (.iload_n 1, 1) := by decide +kernel
theorem d_L_unit_23 : decode (xC k_L_unit) 23 = .ok (.bipush 33, 2) := by decide +kernel
theorem d_L_unit_25 : decode (xC k_L_unit) 25 = .ok (.if_icmp .lt 9, 3) := by decide +kernel
theorem d_L_unit_28 : decode (xC k_L_unit) 28 = .ok (.iload_n 1, 1) := by decide +kernel
theorem d_L_unit_29 : decode (xC k_L_unit) 29 = .ok (.bipush 126, 2) := by decide +kernel
theorem d_L_unit_31 : decode (xC k_L_unit) 31 = .ok (.if_icmp .le 13, 3) := by decide +kernel
theorem d_L_unit_34 : decode (xC k_L_unit) 34 = .ok (.new 64, 3) := by decide +kernel
theorem d_L_unit_37 : decode (xC k_L_unit) 37 = .ok (.dup, 1) := by decide +kernel
theorem d_L_unit_38 : decode (xC k_L_unit) 38 = .ok (.ldc 66, 2) := by decide +kernel
theorem d_L_unit_40 : decode (xC k_L_unit) 40 = .ok (.invokespecial 68, 3) := by decide +kernel
theorem d_L_unit_43 : decode (xC k_L_unit) 43 = .ok (.athrow, 1) := by decide +kernel
theorem d_L_unit_44 : decode (xC k_L_unit) 44 = .ok (.aload_n 0, 1) := by decide +kernel
theorem d_L_unit_45 : decode (xC k_L_unit) 45 = .ok (.getfield 10, 3) := by decide +kernel
theorem d_L_unit_48 : decode (xC k_L_unit) 48 = .ok (.iload_n 1, 1) := by decide +kernel
theorem d_L_unit_49 : decode (xC k_L_unit) 49 = .ok (.invokevirtual 69, 3) := by decide +kernel
theorem d_L_unit_52 : decode (xC k_L_unit) 52 = .ok (.aload_n 0, 1) := by decide +kernel
theorem d_L_unit_53 : decode (xC k_L_unit) 53 = .ok (.getfield 10, 3) := by decide +kernel
theorem d_L_unit_56 : decode (xC k_L_unit) 56 = .ok (.getfield 54, 3) := by decide +kernel
theorem d_L_unit_59 : decode (xC k_L_unit) 59 = .ok (.ireturn, 1) := by decide +kernel
theorem d_L_read_0 : decode (xC k_L_read) 0 = .ok (.aload_n 0, 1) := by decide +kernel
theorem d_L_read_1 : decode (xC k_L_read) 1 = .ok (.getfield 43, 3) := by decide +kernel
theorem d_L_read_4 : decode (xC k_L_read) 4 = .ok (.bipush 8, 2) := by decide +kernel
theorem d_L_read_6 : decode (xC k_L_read) 6 = .ok (.if_icmp .lt 13, 3) := by decide +kernel
theorem d_L_read_9 : decode (xC k_L_read) 9 = .ok (.new 57, 3) := by decide +kernel
theorem d_L_read_12 : decode (xC k_L_read) 12 = .ok (.dup, 1) := by decide +kernel
theorem d_L_read_13 : decode (xC k_L_read) 13 = .ok (.ldc 73, 2) := by decide +kernel
theorem d_L_read_15 : decode (xC k_L_read) 15 = .ok (.invokespecial 61, 3) := by decide +kernel
theorem d_L_read_18 : decode (xC k_L_read) 18 = .ok (.athrow, 1) := by decide +kernel
theorem d_L_read_19 : decode (xC k_L_read) 19 = .ok (.new 75, 3) := by decide +kernel
theorem d_L_read_22 : decode (xC k_L_read) 22 = .ok (.dup, 1) := by decide +kernel
theorem d_L_read_23 : decode (xC k_L_read) 23 = .ok (.aload_n 0, 1) := by decide +kernel
theorem d_L_read_24 : decode (xC k_L_read) 24 = .ok (.getfield 10, 3) := by decide +kernel
theorem d_L_read_27 : decode (xC k_L_read) 27 = .ok (.invokespecial 77, 3) := by decide +kernel
theorem d_L_read_30 : decode (xC k_L_read) 30 = .ok (.astore_n 1, 1) := by decide +kernel
theorem d_L_read_31 : decode (xC k_L_read) 31 = .ok (.aload_n 1, 1) := by decide +kernel
theorem d_L_read_32 : decode (xC k_L_read) 32 = .ok (.invokevirtual 80, 3) := by decide +kernel
theorem d_L_read_35 : decode (xC k_L_read) 35 = .ok (.astore_n 2, 1) := by decide +kernel
theorem d_L_read_36 : decode (xC k_L_read) 36 = .ok (.aload_n 0, 1) := by decide +kernel
theorem d_L_read_37 : decode (xC k_L_read) 37 = .ok (.getfield 10, 3) := by decide +kernel
theorem d_L_read_40 : decode (xC k_L_read) 40 = .ok (.invokevirtual 84, 3) := by decide +kernel
theorem d_L_read_43 : decode (xC k_L_read) 43 = .ok (.aload_n 2, 1) := by decide +kernel
theorem d_L_read_44 : decode (xC k_L_read) 44 = .ok (.ifnonnull 10, 3) := by decide +kernel
theorem d_L_read_47 : decode (xC k_L_read) 47 = .ok (.iconst (-1), 1) := by decide +kernel
theorem d_L_read_48 : decode (xC k_L_read) 48 = .ok (.aload_n 1, 1) := by decide +kernel
theorem d_L_read_49 : decode (xC k_L_read) 49 = .ok (.getfield 87, 3) := by decide +kernel
theorem d_L_read_52 : decode (xC k_L_read) 52 = .ok (.isub, 1) := by decide +kernel
theorem d_L_read_53 : decode (xC k_L_read) 53 = .ok (.ireturn, 1) := by decide +kernel
theorem d_L_read_54 : decode (xC k_L_read) 54 = .ok (.aload_n 0, 1) := by decide +kernel
theorem d_L_read_55 : decode (xC k_L_read) 55 = .ok (.getfield 21, 3) := by decide +kernel
theorem d_L_read_58 : decode (xC k_L_read) 58 = .ok (.aload_n 0, 1) := by decide +kernel
theorem d_L_read_59 : decode (xC k_L_read) 59 = .ok (.getfield 43, 3) := by decide +kernel
theorem d_L_read_62 : decode (xC k_L_read) 62 = .ok (.aload_n 2, 1) := by decide +kernel
theorem d_L_read_63 : decode (xC k_L_read) 63 = .ok (.aastore, 1) := by decide +kernel
theorem d_L_read_64 : decode (xC k_L_read) 64 = .ok (.aload_n 0, 1) := by decide +kernel
theorem d_L_read_65 : decode (xC k_L_read) 65 = .ok (.dup, 1) := by decide +kernel
theorem d_L_read_66 : decode (xC k_L_read) 66 = .ok (.getfield 43, 3) := by decide +kernel
theorem d_L_read_69 : decode (xC k_L_read) 69 = .ok (.iconst 1, 1) := by decide +kernel
theorem d_L_read_70 : decode (xC k_L_read) 70 = .ok (.iadd, 1) := by decide +kernel
theorem d_L_read_71 : decode (xC k_L_read) 71 = .ok (.putfield 43, 3) := by decide +kernel
theorem d_L_read_74 : decode (xC k_L_read) 74 = .ok (.aload_n 0, 1) := by decide +kernel
theorem d_L_read_75 : decode (xC k_L_read) 75 = .ok (.getfield 43, 3) := by decide +kernel
theorem d_L_read_78 : decode (xC k_L_read) 78 = .ok (.iconst 1, 1) := by decide +kernel
theorem d_L_read_79 : decode (xC k_L_read) 79 = .ok (.isub, 1) := by decide +kernel
theorem d_L_read_80 : decode (xC k_L_read) 80 = .ok (.ireturn, 1) := by decide +kernel
theorem d_L_terms_0 : decode (xC k_L_terms) 0 = .ok (.aload_n 0, 1) := by decide +kernel
theorem d_L_terms_1 : decode (xC k_L_terms) 1 = .ok (.iload_n 1, 1) := by decide +kernel
theorem d_L_terms_2 : decode (xC k_L_terms) 2 = .ok (.invokevirtual 90, 3) := by decide +kernel
theorem d_L_terms_5 : decode (xC k_L_terms) 5 = .ok (.getfield 94, 3) := by decide +kernel
theorem d_L_terms_8 : decode (xC k_L_terms) 8 = .ok (.ireturn, 1) := by decide +kernel
theorem d_L_written_0 : decode (xC k_L_written) 0 = .ok (.aload_n 0, 1) := by decide +kernel
theorem d_L_written_1 : decode (xC k_L_written) 1 = .ok (.iload_n 1, 1) := by decide +kernel
theorem d_L_written_2 : decode (xC k_L_written) 2 = .ok (.invokevirtual 90, 3) := by decide +kernel
theorem d_L_written_5 : decode (xC k_L_written) 5 = .ok (.getfield 95, 3) := by decide +kernel
theorem d_L_written_8 : decode (xC k_L_written) 8 = .ok (.iload_n 2, 1) := by decide +kernel
theorem d_L_written_9 : decode (xC k_L_written) 9 = .ok (.invokestatic 98, 3) := by decide +kernel
theorem d_L_written_12 : decode (xC k_L_written) 12 = .ok (.ireturn, 1) := by decide +kernel
theorem d_L_input_0 : decode (xC k_L_input) 0 = .ok (.aload_n 0, 1) := by decide +kernel
theorem d_L_input_1 : decode (xC k_L_input) 1 = .ok (.iload_n 1, 1) := by decide +kernel
theorem d_L_input_2 : decode (xC k_L_input) 2 = .ok (.invokevirtual 102, 3) := by decide +kernel
theorem d_L_input_5 : decode (xC k_L_input) 5 = .ok (.astore 4, 2) := by decide +kernel
theorem d_L_input_7 : decode (xC k_L_input) 7 = .ok (.aload 4, 2) := by decide +kernel
theorem d_L_input_9 : decode (xC k_L_input) 9 = .ok (.getfield 106, 3) := by decide +kernel
theorem d_L_input_12 : decode (xC k_L_input) 12 = .ok (.bipush 60, 2) := by decide +kernel
theorem d_L_input_14 : decode (xC k_L_input) 14 = .ok (.if_icmp .lt 13, 3) := by decide +kernel
theorem d_L_input_17 : decode (xC k_L_input) 17 = .ok (.new 57, 3) := by decide +kernel
theorem d_L_input_20 : decode (xC k_L_input) 20 = .ok (.dup, 1) := by decide +kernel
theorem d_L_input_21 : decode (xC k_L_input) 21 = .ok (.ldc 107, 2) := by decide +kernel
theorem d_L_input_23 : decode (xC k_L_input) 23 = .ok (.invokespecial 61, 3) := by decide +kernel
theorem d_L_input_26 : decode (xC k_L_input) 26 = .ok (.athrow, 1) := by decide +kernel
theorem d_L_input_27 : decode (xC k_L_input) 27 = .ok (.iload_n 2, 1) := by decide +kernel
theorem d_L_input_28 : decode (xC k_L_input) 28 = .ok (.invokestatic 109, 3) := by decide +kernel
theorem d_L_input_31 : decode (xC k_L_input) 31 = .ok (.ifCond .eq 22, 3) := by decide +kernel
theorem d_L_input_34 : decode (xC k_L_input) 34 = .ok (.iload_n 2, 1) := by decide +kernel
theorem d_L_input_35 : decode (xC k_L_input) 35 = .ok (.aload 4, 2) := by decide +kernel
theorem d_L_input_37 : decode (xC k_L_input) 37 = .ok (.invokevirtual 113, 3) := by decide +kernel
theorem d_L_input_40 : decode (xC k_L_input) 40 = .ok (.if_icmp .le 13, 3) := by decide +kernel
theorem d_L_input_43 : decode (xC k_L_input) 43 = .ok (.iload_n 3, 1) := by decide +kernel
theorem d_L_input_44 : decode (xC k_L_input) 44 = .ok (.ifCond .lt 9, 3) := by decide +kernel
theorem d_L_input_47 : decode (xC k_L_input) 47 = .ok (.iload_n 3, 1) := by decide +kernel
theorem d_L_input_48 : decode (xC k_L_input) 48 = .ok (.ldc 117, 2) := by decide +kernel
theorem d_L_input_50 : decode (xC k_L_input) 50 = .ok (.if_icmp .le 13, 3) := by decide +kernel
theorem d_L_input_53 : decode (xC k_L_input) 53 = .ok (.new 64, 3) := by decide +kernel
theorem d_L_input_56 : decode (xC k_L_input) 56 = .ok (.dup, 1) := by decide +kernel
theorem d_L_input_57 : decode (xC k_L_input) 57 = .ok (.ldc 118, 2) := by decide +kernel
theorem d_L_input_59 : decode (xC k_L_input) 59 = .ok (.invokespecial 68, 3) := by decide +kernel
theorem d_L_input_62 : decode (xC k_L_input) 62 = .ok (.athrow, 1) := by decide +kernel
theorem d_L_input_63 : decode (xC k_L_input) 63 = .ok (.aload 4, 2) := by decide +kernel
theorem d_L_input_65 : decode (xC k_L_input) 65 = .ok (.iload_n 2, 1) := by decide +kernel
theorem d_L_input_66 : decode (xC k_L_input) 66 = .ok (.iload_n 3, 1) := by decide +kernel
theorem d_L_input_67 : decode (xC k_L_input) 67 = .ok (.invokevirtual 120, 3) := by decide +kernel
theorem d_L_input_70 : decode (xC k_L_input) 70 = .ok (.aload 4, 2) := by decide +kernel
theorem d_L_input_72 : decode (xC k_L_input) 72 = .ok (.getfield 106, 3) := by decide +kernel
theorem d_L_input_75 : decode (xC k_L_input) 75 = .ok (.ireturn, 1) := by decide +kernel
theorem d_L_fails_0 : decode (xC k_L_fails) 0 = .ok (.aload_n 0, 1) := by decide +kernel
theorem d_L_fails_1 : decode (xC k_L_fails) 1 = .ok (.iload_n 1, 1) := by decide +kernel
theorem d_L_fails_2 : decode (xC k_L_fails) 2 = .ok (.invokevirtual 102, 3) := by decide +kernel
theorem d_L_fails_5 : decode (xC k_L_fails) 5 = .ok (.astore 4, 2) := by decide +kernel
theorem d_L_fails_7 : decode (xC k_L_fails) 7 = .ok (.iload_n 2, 1) := by decide +kernel
theorem d_L_fails_8 : decode (xC k_L_fails) 8 = .ok (.invokestatic 109, 3) := by decide +kernel
theorem d_L_fails_11 : decode (xC k_L_fails) 11 = .ok (.ifCond .eq 15, 3) := by decide +kernel
theorem d_L_fails_14 : decode (xC k_L_fails) 14 = .ok (.iload_n 3, 1) := by decide +kernel
theorem d_L_fails_15 : decode (xC k_L_fails) 15 = .ok (.invokestatic 109, 3) := by decide +kernel
theorem d_L_fails_18 : decode (xC k_L_fails) 18 = .ok (.ifCond .eq 8, 3) := by decide +kernel
theorem d_L_fails_21 : decode (xC k_L_fails) 21 = .ok (.iload_n 3, 1) := by decide +kernel
theorem d_L_fails_22 : decode (xC k_L_fails) 22 = .ok (.iload_n 2, 1) := by decide +kernel
theorem d_L_fails_23 : decode (xC k_L_fails) 23 = .ok (.if_icmp .ge 13, 3) := by decide +kernel
theorem d_L_fails_26 : decode (xC k_L_fails) 26 = .ok (.new 64, 3) := by decide +kernel
theorem d_L_fails_29 : decode (xC k_L_fails) 29 = .ok (.dup, 1) := by decide +kernel
theorem d_L_fails_30 : decode (xC k_L_fails) 30 = .ok (.ldc 123, 2) := by decide +kernel
theorem d_L_fails_32 : decode (xC k_L_fails) 32 = .ok (.invokespecial 68, 3) := by decide +kernel
theorem d_L_fails_35 : decode (xC k_L_fails) 35 = .ok (.athrow, 1) := by decide +kernel
theorem d_L_fails_36 : decode (xC k_L_fails) 36 = .ok (.aload 4, 2) := by decide +kernel
theorem d_L_fails_38 : decode (xC k_L_fails) 38 = .ok (.iload_n 2, 1) := by decide +kernel
theorem d_L_fails_39 : decode (xC k_L_fails) 39 = .ok (.putfield 125, 3) := by decide +kernel
theorem d_L_fails_42 : decode (xC k_L_fails) 42 = .ok (.aload 4, 2) := by decide +kernel
theorem d_L_fails_44 : decode (xC k_L_fails) 44 = .ok (.iload_n 3, 1) := by decide +kernel
theorem d_L_fails_45 : decode (xC k_L_fails) 45 = .ok (.putfield 128, 3) := by decide +kernel
theorem d_L_fails_48 : decode (xC k_L_fails) 48 = .ok (.return_, 1) := by decide +kernel
theorem d_L_loan_0 : decode (xC k_L_loan) 0 = .ok (.aload_n 0, 1) := by decide +kernel
theorem d_L_loan_1 : decode (xC k_L_loan) 1 = .ok (.iload_n 1, 1) := by decide +kernel
theorem d_L_loan_2 : decode (xC k_L_loan) 2 = .ok (.invokevirtual 90, 3) := by decide +kernel
theorem d_L_loan_5 : decode (xC k_L_loan) 5 = .ok (.astore 5, 2) := by decide +kernel
theorem d_L_loan_7 : decode (xC k_L_loan) 7 = .ok (.iload_n 2, 1) := by decide +kernel
theorem d_L_loan_8 : decode (xC k_L_loan) 8 = .ok (.invokestatic 131, 3) := by decide +kernel
theorem d_L_loan_11 : decode (xC k_L_loan) 11 = .ok (.aload_n 0, 1) := by decide +kernel
theorem d_L_loan_12 : decode (xC k_L_loan) 12 = .ok (.getfield 47, 3) := by decide +kernel
theorem d_L_loan_15 : decode (xC k_L_loan) 15 = .ok (.bipush 20, 2) := by decide +kernel
theorem d_L_loan_17 : decode (xC k_L_loan) 17 = .ok (.if_icmp .lt 13, 3) := by decide +kernel
theorem d_L_loan_20 : decode (xC k_L_loan) 20 = .ok (.new 57, 3) := by decide +kernel
theorem d_L_loan_23 : decode (xC k_L_loan) 23 = .ok (.dup, 1) := by decide +kernel
theorem d_L_loan_24 : decode (xC k_L_loan) 24 = .ok (.ldc 134, 2) := by decide +kernel
theorem d_L_loan_26 : decode (xC k_L_loan) 26 = .ok (.invokespecial 61, 3) := by decide +kernel
theorem d_L_loan_29 : decode (xC k_L_loan) 29 = .ok (.athrow, 1) := by decide +kernel
theorem d_L_loan_30 : decode (xC k_L_loan) 30 = .ok (.iload_n 3, 1) := by decide +kernel
theorem d_L_loan_31 : decode (xC k_L_loan) 31 = .ok (.iload 4, 2) := by decide +kernel
theorem d_L_loan_33 : decode (xC k_L_loan) 33 = .ok (.invokestatic 136, 3) := by decide +kernel
theorem d_L_loan_36 : decode (xC k_L_loan) 36 = .ok (.new 37, 3) := by decide +kernel
theorem d_L_loan_39 : decode (xC k_L_loan) 39 = .ok (.dup, 1) := by decide +kernel
theorem d_L_loan_40 : decode (xC k_L_loan) 40 = .ok (.iload_n 2, 1) := by decide +kernel
theorem d_L_loan_41 : decode (xC k_L_loan) 41 = .ok (.iload_n 3, 1) := by decide +kernel
theorem d_L_loan_42 : decode (xC k_L_loan) 42 = .ok (.iload 4, 2) := by decide +kernel
theorem d_L_loan_44 : decode (xC k_L_loan) 44 = .ok (.invokespecial 139, 3) := by decide +kernel
theorem d_L_loan_47 : decode (xC k_L_loan) 47 = .ok (.astore 6, 2) := by decide +kernel
theorem d_L_loan_49 : decode (xC k_L_loan) 49 = .ok (.aload_n 0, 1) := by decide +kernel
theorem d_L_loan_50 : decode (xC k_L_loan) 50 = .ok (.aload 6, 2) := by decide +kernel
theorem d_L_loan_52 : decode (xC k_L_loan) 52 = .ok (.iconst (-1), 1) := by decide +kernel
theorem d_L_loan_53 : decode (xC k_L_loan) 53 = .ok (.invokevirtual 142, 3) := by decide +kernel
theorem d_L_loan_56 : decode (xC k_L_loan) 56 = .ok (.ifCond .eq 5, 3) := by decide +kernel
theorem d_L_loan_59 : decode (xC k_L_loan) 59 = .ok (.iconst (-1), 1) := by decide +kernel
theorem d_L_loan_60 : decode (xC k_L_loan) 60 = .ok (.ireturn, 1) := by decide +kernel
theorem d_L_loan_61 : decode (xC k_L_loan) 61 = .ok (.aload_n 0, 1) := by decide +kernel
theorem d_L_loan_62 : decode (xC k_L_loan) 62 = .ok (.getfield 33, 3) := by decide +kernel
theorem d_L_loan_65 : decode (xC k_L_loan) 65 = .ok (.aload_n 0, 1) := by decide +kernel
theorem d_L_loan_66 : decode (xC k_L_loan) 66 = .ok (.getfield 47, 3) := by decide +kernel
theorem d_L_loan_69 : decode (xC k_L_loan) 69 = .ok (.new 31, 3) := by decide +kernel
theorem d_L_loan_72 : decode (xC k_L_loan) 72 = .ok (.dup, 1) := by decide +kernel
theorem d_L_loan_73 : decode (xC k_L_loan) 73 = .ok (.aload 5, 2) := by decide +kernel
theorem d_L_loan_75 : decode (xC k_L_loan) 75 = .ok (.aload 6, 2) := by decide +kernel
theorem d_L_loan_77 : decode (xC k_L_loan) 77 = .ok (.invokespecial 146, 3) := by decide +kernel
theorem d_L_loan_80 : decode (xC k_L_loan) 80 = .ok (.aastore, 1) := by decide +kernel
theorem d_L_loan_81 : decode (xC k_L_loan) 81 = .ok (.aload_n 0, 1) := by decide +kernel
theorem d_L_loan_82 : decode (xC k_L_loan) 82 = .ok (.dup, 1) := by decide +kernel
theorem d_L_loan_83 : decode (xC k_L_loan) 83 = .ok (.getfield 47, 3) := by decide +kernel
theorem d_L_loan_86 : decode (xC k_L_loan) 86 = .ok (.iconst 1, 1) := by decide +kernel
theorem d_L_loan_87 : decode (xC k_L_loan) 87 = .ok (.iadd, 1) := by decide +kernel
theorem d_L_loan_88 : decode (xC k_L_loan) 88 = .ok (.putfield 47, 3) := by decide +kernel
theorem d_L_loan_91 : decode (xC k_L_loan) 91 = .ok (.aload_n 0, 1) := by decide +kernel
theorem d_L_loan_92 : decode (xC k_L_loan) 92 = .ok (.getfield 47, 3) := by decide +kernel
theorem d_L_loan_95 : decode (xC k_L_loan) 95 = .ok (.iconst 1, 1) := by decide +kernel
theorem d_L_loan_96 : decode (xC k_L_loan) 96 = .ok (.isub, 1) := by decide +kernel
theorem d_L_loan_97 : decode (xC k_L_loan) 97 = .ok (.ireturn, 1) := by decide +kernel
theorem d_L_shield_0 : decode (xC k_L_shield) 0 = .ok (.aload_n 0, 1) := by decide +kernel
theorem d_L_shield_1 : decode (xC k_L_shield) 1 = .ok (.iload_n 1, 1) := by decide +kernel
theorem d_L_shield_2 : decode (xC k_L_shield) 2 = .ok (.invokevirtual 149, 3) := by decide +kernel
theorem d_L_shield_5 : decode (xC k_L_shield) 5 = .ok (.astore_n 3, 1) := by decide +kernel
theorem d_L_shield_6 : decode (xC k_L_shield) 6 = .ok (.aload_n 3, 1) := by decide +kernel
theorem d_L_shield_7 : decode (xC k_L_shield) 7 = .ok (.getfield 153, 3) := by decide +kernel
theorem d_L_shield_10 : decode (xC k_L_shield) 10 = .ok (.iload_n 2, 1) := by decide +kernel
theorem d_L_shield_11 : decode (xC k_L_shield) 11 = .ok (.if_icmp .eq 7, 3) := by decide +kernel
theorem d_L_shield_14 : decode (xC k_L_shield) 14 = .ok (.iconst 1, 1) := by decide +kernel
theorem d_L_shield_15 : decode (xC k_L_shield) 15 = .ok (.goto 4, 3) := by decide +kernel
theorem d_L_shield_18 : decode (xC k_L_shield) 18 = .ok (.iconst 0, 1) := by decide +kernel
theorem d_L_shield_19 : decode (xC k_L_shield) 19 = .ok (.istore 4, 2) := by decide +kernel
theorem d_L_shield_21 : decode (xC k_L_shield) 21 = .ok (.aload_n 3, 1) := by decide +kernel
theorem d_L_shield_22 : decode (xC k_L_shield) 22 = .ok (.iload_n 2, 1) := by decide +kernel
theorem d_L_shield_23 : decode (xC k_L_shield) 23 = .ok (.putfield 153, 3) := by decide +kernel
theorem d_L_shield_26 : decode (xC k_L_shield) 26 = .ok (.iload 4, 2) := by decide +kernel
theorem d_L_shield_28 : decode (xC k_L_shield) 28 = .ok (.ireturn, 1) := by decide +kernel
theorem d_L_ask_0 : decode (xC k_L_ask) 0 = .ok (.aload_n 0, 1) := by decide +kernel
theorem d_L_ask_1 : decode (xC k_L_ask) 1 = .ok (.iload_n 1, 1) := by decide +kernel
theorem d_L_ask_2 : decode (xC k_L_ask) 2 = .ok (.invokevirtual 149, 3) := by decide +kernel
theorem d_L_ask_5 : decode (xC k_L_ask) 5 = .ok (.astore_n 3, 1) := by decide +kernel
theorem d_L_ask_6 : decode (xC k_L_ask) 6 = .ok (.iload_n 2, 1) := by decide +kernel
theorem d_L_ask_7 : decode (xC k_L_ask) 7 = .ok (.invokestatic 157, 3) := by decide +kernel
theorem d_L_ask_10 : decode (xC k_L_ask) 10 = .ok (.aload_n 3, 1) := by decide +kernel
theorem d_L_ask_11 : decode (xC k_L_ask) 11 = .ok (.getfield 160, 3) := by decide +kernel
theorem d_L_ask_14 : decode (xC k_L_ask) 14 = .ok (.iload_n 2, 1) := by decide +kernel
theorem d_L_ask_15 : decode (xC k_L_ask) 15 = .ok (.bipush 24, 2) := by decide +kernel
theorem d_L_ask_17 : decode (xC k_L_ask) 17 = .ok (.idiv, 1) := by decide +kernel
theorem d_L_ask_18 : decode (xC k_L_ask) 18 = .ok (.invokevirtual 164, 3) := by decide +kernel
theorem d_L_ask_21 : decode (xC k_L_ask) 21 = .ok (.ifCond .ne 5, 3) := by decide +kernel
theorem d_L_ask_24 : decode (xC k_L_ask) 24 = .ok (.iconst (-1), 1) := by decide +kernel
theorem d_L_ask_25 : decode (xC k_L_ask) 25 = .ok (.ireturn, 1) := by decide +kernel
theorem d_L_ask_26 : decode (xC k_L_ask) 26 = .ok (.iconst 0, 1) := by decide +kernel
theorem d_L_ask_27 : decode (xC k_L_ask) 27 = .ok (.istore 4, 2) := by decide +kernel
theorem d_L_ask_29 : decode (xC k_L_ask) 29 = .ok (.iconst 0, 1) := by decide +kernel
theorem d_L_ask_30 : decode (xC k_L_ask) 30 = .ok (.istore 5, 2) := by decide +kernel
theorem d_L_ask_32 : decode (xC k_L_ask) 32 = .ok (.iload 5, 2) := by decide +kernel
theorem d_L_ask_34 : decode (xC k_L_ask) 34 = .ok (.aload_n 3, 1) := by decide +kernel
theorem d_L_ask_35 : decode (xC k_L_ask) 35 = .ok (.getfield 167, 3) := by decide +kernel
theorem d_L_ask_38 : decode (xC k_L_ask) 38 = .ok (.getfield 94, 3) := by decide +kernel
theorem d_L_ask_41 : decode (xC k_L_ask) 41 = .ok (.if_icmp .ge 70, 3) := by decide +kernel
theorem d_L_ask_44 : decode (xC k_L_ask) 44 = .ok (.aload_n 0, 1) := by decide +kernel
theorem d_L_ask_45 : decode (xC k_L_ask) 45 = .ok (.aload_n 3, 1) := by decide +kernel
theorem d_L_ask_46 : decode (xC k_L_ask) 46 = .ok (.getfield 167, 3) := by decide +kernel
theorem d_L_ask_49 : decode (xC k_L_ask) 49 = .ok (.iload 5, 2) := by decide +kernel
theorem d_L_ask_51 : decode (xC k_L_ask) 51 = .ok (.invokevirtual 171, 3) := by decide +kernel
theorem d_L_ask_54 : decode (xC k_L_ask) 54 = .ok (.aload_n 3, 1) := by decide +kernel
theorem d_L_ask_55 : decode (xC k_L_ask) 55 = .ok (.iload_n 2, 1) := by decide +kernel
theorem d_L_ask_56 : decode (xC k_L_ask) 56 = .ok (.iconst 0, 1) := by decide +kernel
theorem d_L_ask_57 : decode (xC k_L_ask) 57 = .ok (.invokevirtual 175, 3) := by decide +kernel
theorem d_L_ask_60 : decode (xC k_L_ask) 60 = .ok (.istore 6, 2) := by decide +kernel
theorem d_L_ask_62 : decode (xC k_L_ask) 62 = .ok (.iload 6, 2) := by decide +kernel
theorem d_L_ask_64 : decode (xC k_L_ask) 64 = .ok (.iconst 1, 1) := by decide +kernel
theorem d_L_ask_65 : decode (xC k_L_ask) 65 = .ok (.if_icmp .ne 12, 3) := by decide +kernel
theorem d_L_ask_68 : decode (xC k_L_ask) 68 = .ok (.aload_n 3, 1) := by decide +kernel
theorem d_L_ask_69 : decode (xC k_L_ask) 69 = .ok (.iload 5, 2) := by decide +kernel
theorem d_L_ask_71 : decode (xC k_L_ask) 71 = .ok (.invokevirtual 179, 3) := by decide +kernel
theorem d_L_ask_74 : decode (xC k_L_ask) 74 = .ok (.goto 31, 3) := by decide +kernel
theorem d_L_ask_77 : decode (xC k_L_ask) 77 = .ok (.iload 6, 2) := by decide +kernel
theorem d_L_ask_79 : decode (xC k_L_ask) 79 = .ok (.ifCond .ne 26, 3) := by decide +kernel
theorem d_L_ask_82 : decode (xC k_L_ask) 82 = .ok (.aload_n 3, 1) := by decide +kernel
theorem d_L_ask_83 : decode (xC k_L_ask) 83 = .ok (.iload_n 2, 1) := by decide +kernel
theorem d_L_ask_84 : decode (xC k_L_ask) 84 = .ok (.iload 5, 2) := by decide +kernel
theorem d_L_ask_86 : decode (xC k_L_ask) 86 = .ok (.invokevirtual 182, 3) := by decide +kernel
theorem d_L_ask_89 : decode (xC k_L_ask) 89 = .ok (.iload 4, 2) := by decide +kernel
theorem d_L_ask_91 : decode (xC k_L_ask) 91 = .ok (.ifCond .ne 10, 3) := by decide +kernel
theorem d_L_ask_94 : decode (xC k_L_ask) 94 = .ok (.iconst 1, 1) := by decide +kernel
theorem d_L_ask_95 : decode (xC k_L_ask) 95 = .ok (.iload 5, 2) := by decide +kernel
theorem d_L_ask_97 : decode (xC k_L_ask) 97 = .ok (.iadd, 1) := by decide +kernel
theorem d_L_ask_98 : decode (xC k_L_ask) 98 = .ok (.goto 5, 3) := by decide +kernel
theorem d_L_ask_101 : decode (xC k_L_ask) 101 = .ok (.iload 4, 2) := by decide +kernel
theorem d_L_ask_103 : decode (xC k_L_ask) 103 = .ok (.istore 4, 2) := by decide +kernel
theorem d_L_ask_105 : decode (xC k_L_ask) 105 = .ok (.iinc 5 1, 3) := by decide +kernel
theorem d_L_ask_108 : decode (xC k_L_ask) 108 = .ok (.goto (-76), 3) := by decide +kernel
theorem d_L_ask_111 : decode (xC k_L_ask) 111 = .ok (.iload 4, 2) := by decide +kernel
theorem d_L_ask_113 : decode (xC k_L_ask) 113 = .ok (.ireturn, 1) := by decide +kernel
theorem d_L_open_0 : decode (xC k_L_open) 0 = .ok (.aload_n 0, 1) := by decide +kernel
theorem d_L_open_1 : decode (xC k_L_open) 1 = .ok (.iload_n 1, 1) := by decide +kernel
theorem d_L_open_2 : decode (xC k_L_open) 2 = .ok (.invokevirtual 149, 3) := by decide +kernel
theorem d_L_open_5 : decode (xC k_L_open) 5 = .ok (.astore 4, 2) := by decide +kernel
theorem d_L_open_7 : decode (xC k_L_open) 7 = .ok (.iload_n 3, 1) := by decide +kernel
theorem d_L_open_8 : decode (xC k_L_open) 8 = .ok (.ifCond .ge 13, 3) := by decide +kernel
theorem d_L_open_11 : decode (xC k_L_open) 11 = .ok (.new 185, 3) := by decide +kernel
theorem d_L_open_14 : decode (xC k_L_open) 14 = .ok (.dup, 1) := by decide +kernel
theorem d_L_open_15 : decode (xC k_L_open) 15 = .ok (.ldc 187, 2) := by decide +kernel
theorem d_L_open_17 : decode (xC k_L_open) 17 = .ok (.invokespecial 189, 3) := by decide +kernel
theorem d_L_open_20 : decode (xC k_L_open) 20 = .ok (.athrow, 1) := by decide +kernel
theorem d_L_open_21 : decode (xC k_L_open) 21 = .ok (.iload_n 2, 1) := by decide +kernel
theorem d_L_open_22 : decode (xC k_L_open) 22 = .ok (.invokestatic 157, 3) := by decide +kernel
theorem d_L_open_25 : decode (xC k_L_open) 25 = .ok (.iconst 0, 1) := by decide +kernel
theorem d_L_open_26 : decode (xC k_L_open) 26 = .ok (.istore 5, 2) := by decide +kernel
theorem d_L_open_28 : decode (xC k_L_open) 28 = .ok (.iconst 0, 1) := by decide +kernel
theorem d_L_open_29 : decode (xC k_L_open) 29 = .ok (.istore 6, 2) := by decide +kernel
theorem d_L_open_31 : decode (xC k_L_open) 31 = .ok (.iload 6, 2) := by decide +kernel
theorem d_L_open_33 : decode (xC k_L_open) 33 = .ok (.aload 4, 2) := by decide +kernel
theorem d_L_open_35 : decode (xC k_L_open) 35 = .ok (.getfield 167, 3) := by decide +kernel
theorem d_L_open_38 : decode (xC k_L_open) 38 = .ok (.getfield 94, 3) := by decide +kernel
theorem d_L_open_41 : decode (xC k_L_open) 41 = .ok (.if_icmp .ge 43, 3) := by decide +kernel
theorem d_L_open_44 : decode (xC k_L_open) 44 = .ok (.aload_n 0, 1) := by decide +kernel
theorem d_L_open_45 : decode (xC k_L_open) 45 = .ok (.aload 4, 2) := by decide +kernel
theorem d_L_open_47 : decode (xC k_L_open) 47 = .ok (.getfield 167, 3) := by decide +kernel
theorem d_L_open_50 : decode (xC k_L_open) 50 = .ok (.iload 6, 2) := by decide +kernel
theorem d_L_open_52 : decode (xC k_L_open) 52 = .ok (.invokevirtual 171, 3) := by decide +kernel
theorem d_L_open_55 : decode (xC k_L_open) 55 = .ok (.aload 4, 2) := by decide +kernel
theorem d_L_open_57 : decode (xC k_L_open) 57 = .ok (.iload_n 2, 1) := by decide +kernel
theorem d_L_open_58 : decode (xC k_L_open) 58 = .ok (.iconst 0, 1) := by decide +kernel
theorem d_L_open_59 : decode (xC k_L_open) 59 = .ok (.invokevirtual 175, 3) := by decide +kernel
theorem d_L_open_62 : decode (xC k_L_open) 62 = .ok (.iconst 2, 1) := by decide +kernel
theorem d_L_open_63 : decode (xC k_L_open) 63 = .ok (.if_icmp .ne 15, 3) := by decide +kernel
theorem d_L_open_66 : decode (xC k_L_open) 66 = .ok (.iload 5, 2) := by decide +kernel
theorem d_L_open_68 : decode (xC k_L_open) 68 = .ok (.iload_n 3, 1) := by decide +kernel
theorem d_L_open_69 : decode (xC k_L_open) 69 = .ok (.if_icmp .ne 6, 3) := by decide +kernel
theorem d_L_open_72 : decode (xC k_L_open) 72 = .ok (.iload 6, 2) := by decide +kernel
theorem d_L_open_74 : decode (xC k_L_open) 74 = .ok (.ireturn, 1) := by decide +kernel
theorem d_L_open_75 : decode (xC k_L_open) 75 = .ok (.iinc 5 1, 3) := by decide +kernel
theorem d_L_open_78 : decode (xC k_L_open) 78 = .ok (.iinc 6 1, 3) := by decide +kernel
theorem d_L_open_81 : decode (xC k_L_open) 81 = .ok (.goto (-50), 3) := by decide +kernel
theorem d_L_open_84 : decode (xC k_L_open) 84 = .ok (.iconst (-1), 1) := by decide +kernel
theorem d_L_open_85 : decode (xC k_L_open) 85 = .ok (.ireturn, 1) := by decide +kernel
theorem d_L_told_0 : decode (xC k_L_told) 0 = .ok (.aload_n 0, 1) := by decide +kernel
theorem d_L_told_1 : decode (xC k_L_told) 1 = .ok (.iload_n 1, 1) := by decide +kernel
theorem d_L_told_2 : decode (xC k_L_told) 2 = .ok (.invokevirtual 149, 3) := by decide +kernel
theorem d_L_told_5 : decode (xC k_L_told) 5 = .ok (.astore 4, 2) := by decide +kernel
theorem d_L_told_7 : decode (xC k_L_told) 7 = .ok (.iload_n 3, 1) := by decide +kernel
theorem d_L_told_8 : decode (xC k_L_told) 8 = .ok (.ifCond .lt 22, 3) := by decide +kernel
theorem d_L_told_11 : decode (xC k_L_told) 11 = .ok (.iload_n 3, 1) := by decide +kernel
theorem d_L_told_12 : decode (xC k_L_told) 12 = .ok (.iconst 1, 1) := by decide +kernel
theorem d_L_told_13 : decode (xC k_L_told) 13 = .ok (.if_icmp .gt 17, 3) := by decide +kernel
theorem d_L_told_16 : decode (xC k_L_told) 16 = .ok (.iload_n 2, 1) := by decide +kernel
theorem d_L_told_17 : decode (xC k_L_told) 17 = .ok (.iconst (-1), 1) := by decide +kernel
theorem d_L_told_18 : decode (xC k_L_told) 18 = .ok (.if_icmp .lt 12, 3) := by decide +kernel
theorem d_L_told_21 : decode (xC k_L_told) 21 = .ok (.iload_n 2, 1) := by decide +kernel
theorem d_L_told_22 : decode (xC k_L_told) 22 = .ok (.aload 4, 2) := by decide +kernel
theorem d_L_told_24 : decode (xC k_L_told) 24 = .ok (.getfield 190, 3) := by decide +kernel
theorem d_L_told_27 : decode (xC k_L_told) 27 = .ok (.if_icmp .lt 13, 3) := by decide +kernel
theorem d_L_told_30 : decode (xC k_L_told) 30 = .ok (.new 185, 3) := by decide +kernel
theorem d_L_told_33 : decode (xC k_L_told) 33 = .ok (.dup, 1) := by decide +kernel
theorem d_L_told_34 : decode (xC k_L_told) 34 = .ok (.ldc 193, 2) := by decide +kernel
theorem d_L_told_36 : decode (xC k_L_told) 36 = .ok (.invokespecial 189, 3) := by decide +kernel
theorem d_L_told_39 : decode (xC k_L_told) 39 = .ok (.athrow, 1) := by decide +kernel
theorem d_L_told_40 : decode (xC k_L_told) 40 = .ok (.iload_n 2, 1) := by decide +kernel
theorem d_L_told_41 : decode (xC k_L_told) 41 = .ok (.iconst (-1), 1) := by decide +kernel
theorem d_L_told_42 : decode (xC k_L_told) 42 = .ok (.if_icmp .ne 9, 3) := by decide +kernel
theorem d_L_told_45 : decode (xC k_L_told) 45 = .ok (.aload 4, 2) := by decide +kernel
theorem d_L_told_47 : decode (xC k_L_told) 47 = .ok (.getfield 190, 3) := by decide +kernel
theorem d_L_told_50 : decode (xC k_L_told) 50 = .ok (.ireturn, 1) := by decide +kernel
theorem d_L_told_51 : decode (xC k_L_told) 51 = .ok (.iload_n 3, 1) := by decide +kernel
theorem d_L_told_52 : decode (xC k_L_told) 52 = .ok (.ifCond .ne 13, 3) := by decide +kernel
theorem d_L_told_55 : decode (xC k_L_told) 55 = .ok (.aload 4, 2) := by decide +kernel
theorem d_L_told_57 : decode (xC k_L_told) 57 = .ok (.getfield 195, 3) := by decide +kernel
theorem d_L_told_60 : decode (xC k_L_told) 60 = .ok (.iload_n 2, 1) := by decide +kernel
theorem d_L_told_61 : decode (xC k_L_told) 61 = .ok (.iaload, 1) := by decide +kernel
theorem d_L_told_62 : decode (xC k_L_told) 62 = .ok (.goto 10, 3) := by decide +kernel
theorem d_L_told_65 : decode (xC k_L_told) 65 = .ok (.aload 4, 2) := by decide +kernel
theorem d_L_told_67 : decode (xC k_L_told) 67 = .ok (.getfield 199, 3) := by decide +kernel
theorem d_L_told_70 : decode (xC k_L_told) 70 = .ok (.iload_n 2, 1) := by decide +kernel
theorem d_L_told_71 : decode (xC k_L_told) 71 = .ok (.iaload, 1) := by decide +kernel
theorem d_L_told_72 : decode (xC k_L_told) 72 = .ok (.ireturn, 1) := by decide +kernel
theorem d_L_extend_0 : decode (xC k_L_extend) 0 = .ok (.aload_n 0, 1) := by decide +kernel
theorem d_L_extend_1 : decode (xC k_L_extend) 1 = .ok (.iload_n 1, 1) := by decide +kernel
theorem d_L_extend_2 : decode (xC k_L_extend) 2 = .ok (.invokevirtual 149, 3) := by decide +kernel
theorem d_L_extend_5 : decode (xC k_L_extend) 5 = .ok (.astore 4, 2) := by decide +kernel
theorem d_L_extend_7 : decode (xC k_L_extend) 7 = .ok (.iload_n 2, 1) := by decide +kernel
theorem d_L_extend_8 : decode (xC k_L_extend) 8 = .ok (.invokestatic 202, 3) := by decide +kernel
theorem d_L_extend_11 : decode (xC k_L_extend) 11 = .ok (.ifCond .eq 10, 3) := by decide +kernel
theorem d_L_extend_14 : decode (xC k_L_extend) 14 = .ok (.iload_n 3, 1) := by decide +kernel
theorem d_L_extend_15 : decode (xC k_L_extend) 15 = .ok (.invokestatic 202, 3) := by decide +kernel
theorem d_L_extend_18 : decode (xC k_L_extend) 18 = .ok (.ifCond .ne 13, 3) := by decide +kernel
theorem d_L_extend_21 : decode (xC k_L_extend) 21 = .ok (.new 64, 3) := by decide +kernel
theorem d_L_extend_24 : decode (xC k_L_extend) 24 = .ok (.dup, 1) := by decide +kernel
theorem d_L_extend_25 : decode (xC k_L_extend) 25 = .ok (.ldc 205, 2) := by decide +kernel
theorem d_L_extend_27 : decode (xC k_L_extend) 27 = .ok (.invokespecial 68, 3) := by decide +kernel
theorem d_L_extend_30 : decode (xC k_L_extend) 30 = .ok (.athrow, 1) := by decide +kernel
theorem d_L_extend_31 : decode (xC k_L_extend) 31 = .ok (.iload_n 3, 1) := by decide +kernel
theorem d_L_extend_32 : decode (xC k_L_extend) 32 = .ok (.aload 4, 2) := by decide +kernel
theorem d_L_extend_34 : decode (xC k_L_extend) 34 = .ok (.getfield 160, 3) := by decide +kernel
theorem d_L_extend_37 : decode (xC k_L_extend) 37 = .ok (.getfield 207, 3) := by decide +kernel
theorem d_L_extend_40 : decode (xC k_L_extend) 40 = .ok (.if_icmp .le 5, 3) := by decide +kernel
theorem d_L_extend_43 : decode (xC k_L_extend) 43 = .ok (.iconst 1, 1) := by decide +kernel
theorem d_L_extend_44 : decode (xC k_L_extend) 44 = .ok (.ireturn, 1) := by decide +kernel
theorem d_L_extend_45 : decode (xC k_L_extend) 45 = .ok (.iload_n 2, 1) := by decide +kernel
theorem d_L_extend_46 : decode (xC k_L_extend) 46 = .ok (.aload 4, 2) := by decide +kernel
theorem d_L_extend_48 : decode (xC k_L_extend) 48 = .ok (.getfield 160, 3) := by decide +kernel
theorem d_L_extend_51 : decode (xC k_L_extend) 51 = .ok (.getfield 207, 3) := by decide +kernel
theorem d_L_extend_54 : decode (xC k_L_extend) 54 = .ok (.if_icmp .gt 5, 3) := by decide +kernel
theorem d_L_extend_57 : decode (xC k_L_extend) 57 = .ok (.iconst 2, 1) := by decide +kernel
theorem d_L_extend_58 : decode (xC k_L_extend) 58 = .ok (.ireturn, 1) := by decide +kernel
theorem d_L_extend_59 : decode (xC k_L_extend) 59 = .ok (.new 37, 3) := by decide +kernel
theorem d_L_extend_62 : decode (xC k_L_extend) 62 = .ok (.dup, 1) := by decide +kernel
theorem d_L_extend_63 : decode (xC k_L_extend) 63 = .ok (.aload 4, 2) := by decide +kernel
theorem d_L_extend_65 : decode (xC k_L_extend) 65 = .ok (.getfield 160, 3) := by decide +kernel
theorem d_L_extend_68 : decode (xC k_L_extend) 68 = .ok (.getfield 210, 3) := by decide +kernel
theorem d_L_extend_71 : decode (xC k_L_extend) 71 = .ok (.aload 4, 2) := by decide +kernel
theorem d_L_extend_73 : decode (xC k_L_extend) 73 = .ok (.getfield 160, 3) := by decide +kernel
theorem d_L_extend_76 : decode (xC k_L_extend) 76 = .ok (.getfield 213, 3) := by decide +kernel
theorem d_L_extend_79 : decode (xC k_L_extend) 79 = .ok (.iload_n 2, 1) := by decide +kernel
theorem d_L_extend_80 : decode (xC k_L_extend) 80 = .ok (.invokespecial 139, 3) := by decide +kernel
theorem d_L_extend_83 : decode (xC k_L_extend) 83 = .ok (.astore 5, 2) := by decide +kernel
theorem d_L_extend_85 : decode (xC k_L_extend) 85 = .ok (.aload_n 0, 1) := by decide +kernel
theorem d_L_extend_86 : decode (xC k_L_extend) 86 = .ok (.aload 5, 2) := by decide +kernel
theorem d_L_extend_88 : decode (xC k_L_extend) 88 = .ok (.iload_n 1, 1) := by decide +kernel
theorem d_L_extend_89 : decode (xC k_L_extend) 89 = .ok (.invokevirtual 142, 3) := by decide +kernel
theorem d_L_extend_92 : decode (xC k_L_extend) 92 = .ok (.ifCond .eq 5, 3) := by decide +kernel
theorem d_L_extend_95 : decode (xC k_L_extend) 95 = .ok (.iconst 3, 1) := by decide +kernel
theorem d_L_extend_96 : decode (xC k_L_extend) 96 = .ok (.ireturn, 1) := by decide +kernel
theorem d_L_extend_97 : decode (xC k_L_extend) 97 = .ok (.aload 4, 2) := by decide +kernel
theorem d_L_extend_99 : decode (xC k_L_extend) 99 = .ok (.aload 5, 2) := by decide +kernel
theorem d_L_extend_101 : decode (xC k_L_extend) 101 = .ok (.putfield 160, 3) := by decide +kernel
theorem d_L_extend_104 : decode (xC k_L_extend) 104 = .ok (.iconst 0, 1) := by decide +kernel
theorem d_L_extend_105 : decode (xC k_L_extend) 105 = .ok (.ireturn, 1) := by decide +kernel
theorem d_L_request_0 : decode (xC k_L_request) 0 = .ok (.iload_n 1, 1) := by decide +kernel
theorem d_L_request_1 : decode (xC k_L_request) 1 = .ok (.invokestatic 131, 3) := by decide +kernel
theorem d_L_request_4 : decode (xC k_L_request) 4 = .ok (.aload_n 0, 1) := by decide +kernel
theorem d_L_request_5 : decode (xC k_L_request) 5 = .ok (.getfield 50, 3) := by decide +kernel
theorem d_L_request_8 : decode (xC k_L_request) 8 = .ok (.bipush 30, 2) := by decide +kernel
theorem d_L_request_10 : decode (xC k_L_request) 10 = .ok (.if_icmp .lt 13, 3) := by decide +kernel
theorem d_L_request_13 : decode (xC k_L_request) 13 = .ok (.new 57, 3) := by decide +kernel
theorem d_L_request_16 : decode (xC k_L_request) 16 = .ok (.dup, 1) := by decide +kernel
theorem d_L_request_17 : decode (xC k_L_request) 17 = .ok (.ldc 216, 2) := by decide +kernel
theorem d_L_request_19 : decode (xC k_L_request) 19 = .ok (.invokespecial 61, 3) := by decide +kernel
theorem d_L_request_22 : decode (xC k_L_request) 22 = .ok (.athrow, 1) := by decide +kernel
theorem d_L_request_23 : decode (xC k_L_request) 23 = .ok (.iload_n 2, 1) := by decide +kernel
theorem d_L_request_24 : decode (xC k_L_request) 24 = .ok (.iload_n 3, 1) := by decide +kernel
theorem d_L_request_25 : decode (xC k_L_request) 25 = .ok (.invokestatic 136, 3) := by decide +kernel
theorem d_L_request_28 : decode (xC k_L_request) 28 = .ok (.aload_n 0, 1) := by decide +kernel
theorem d_L_request_29 : decode (xC k_L_request) 29 = .ok (.getfield 39, 3) := by decide +kernel
theorem d_L_request_32 : decode (xC k_L_request) 32 = .ok (.aload_n 0, 1) := by decide +kernel
theorem d_L_request_33 : decode (xC k_L_request) 33 = .ok (.getfield 50, 3) := by decide +kernel
theorem d_L_request_36 : decode (xC k_L_request) 36 = .ok (.new 37, 3) := by decide +kernel
theorem d_L_request_39 : decode (xC k_L_request) 39 = .ok (.dup, 1) := by decide +kernel
theorem d_L_request_40 : decode (xC k_L_request) 40 = .ok (.iload_n 1, 1) := by decide +kernel
theorem d_L_request_41 : decode (xC k_L_request) 41 = .ok (.iload_n 2, 1) := by decide +kernel
theorem d_L_request_42 : decode (xC k_L_request) 42 = .ok (.iload_n 3, 1) := by decide +kernel
theorem d_L_request_43 : decode (xC k_L_request) 43 = .ok (.invokespecial 139, 3) := by decide +kernel
theorem d_L_request_46 : decode (xC k_L_request) 46 = .ok (.aastore, 1) := by decide +kernel
theorem d_L_request_47 : decode (xC k_L_request) 47 = .ok (.aload_n 0, 1) := by decide +kernel
theorem d_L_request_48 : decode (xC k_L_request) 48 = .ok (.dup, 1) := by decide +kernel
theorem d_L_request_49 : decode (xC k_L_request) 49 = .ok (.getfield 50, 3) := by decide +kernel
theorem d_L_request_52 : decode (xC k_L_request) 52 = .ok (.iconst 1, 1) := by decide +kernel
theorem d_L_request_53 : decode (xC k_L_request) 53 = .ok (.iadd, 1) := by decide +kernel
theorem d_L_request_54 : decode (xC k_L_request) 54 = .ok (.putfield 50, 3) := by decide +kernel
theorem d_L_request_57 : decode (xC k_L_request) 57 = .ok (.aload_n 0, 1) := by decide +kernel
theorem d_L_request_58 : decode (xC k_L_request) 58 = .ok (.getfield 50, 3) := by decide +kernel
theorem d_L_request_61 : decode (xC k_L_request) 61 = .ok (.iconst 1, 1) := by decide +kernel
theorem d_L_request_62 : decode (xC k_L_request) 62 = .ok (.isub, 1) := by decide +kernel
theorem d_L_request_63 : decode (xC k_L_request) 63 = .ok (.ireturn, 1) := by decide +kernel
theorem d_L_clash_0 : decode (xC k_L_clash) 0 = .ok (.iload_n 1, 1) := by decide +kernel
theorem d_L_clash_1 : decode (xC k_L_clash) 1 = .ok (.ifCond .lt 12, 3) := by decide +kernel
theorem d_L_clash_4 : decode (xC k_L_clash) 4 = .ok (.iload_n 2, 1) := by decide +kernel
theorem d_L_clash_5 : decode (xC k_L_clash) 5 = .ok (.ifCond .lt 8, 3) := by decide +kernel
theorem d_L_clash_8 : decode (xC k_L_clash) 8 = .ok (.iload_n 2, 1) := by decide +kernel
theorem d_L_clash_9 : decode (xC k_L_clash) 9 = .ok (.iconst 1, 1) := by decide +kernel
theorem d_L_clash_10 : decode (xC k_L_clash) 10 = .ok (.if_icmp .le 13, 3) := by decide +kernel
theorem d_L_clash_13 : decode (xC k_L_clash) 13 = .ok (.new 185, 3) := by decide +kernel
theorem d_L_clash_16 : decode (xC k_L_clash) 16 = .ok (.dup, 1) := by decide +kernel
theorem d_L_clash_17 : decode (xC k_L_clash) 17 = .ok (.ldc 193, 2) := by decide +kernel
theorem d_L_clash_19 : decode (xC k_L_clash) 19 = .ok (.invokespecial 189, 3) := by decide +kernel
theorem d_L_clash_22 : decode (xC k_L_clash) 22 = .ok (.athrow, 1) := by decide +kernel
theorem d_L_clash_23 : decode (xC k_L_clash) 23 = .ok (.iconst 0, 1) := by decide +kernel
theorem d_L_clash_24 : decode (xC k_L_clash) 24 = .ok (.istore_n 3, 1) := by decide +kernel
theorem d_L_clash_25 : decode (xC k_L_clash) 25 = .ok (.iconst 0, 1) := by decide +kernel
theorem d_L_clash_26 : decode (xC k_L_clash) 26 = .ok (.istore 4, 2) := by decide +kernel
theorem d_L_clash_28 : decode (xC k_L_clash) 28 = .ok (.iload 4, 2) := by decide +kernel
theorem d_L_clash_30 : decode (xC k_L_clash) 30 = .ok (.aload_n 0, 1) := by decide +kernel
theorem d_L_clash_31 : decode (xC k_L_clash) 31 = .ok (.getfield 50, 3) := by decide +kernel
theorem d_L_clash_34 : decode (xC k_L_clash) 34 = .ok (.if_icmp .ge 77, 3) := by decide +kernel
theorem d_L_clash_37 : decode (xC k_L_clash) 37 = .ok (.iload 4, 2) := by decide +kernel
theorem d_L_clash_39 : decode (xC k_L_clash) 39 = .ok (.iconst 1, 1) := by decide +kernel
theorem d_L_clash_40 : decode (xC k_L_clash) 40 = .ok (.iadd, 1) := by decide +kernel
theorem d_L_clash_41 : decode (xC k_L_clash) 41 = .ok (.istore 5, 2) := by decide +kernel
theorem d_L_clash_43 : decode (xC k_L_clash) 43 = .ok (.iload 5, 2) := by decide +kernel
theorem d_L_clash_45 : decode (xC k_L_clash) 45 = .ok (.aload_n 0, 1) := by decide +kernel
theorem d_L_clash_46 : decode (xC k_L_clash) 46 = .ok (.getfield 50, 3) := by decide +kernel
theorem d_L_clash_49 : decode (xC k_L_clash) 49 = .ok (.aload_n 0, 1) := by decide +kernel
theorem d_L_clash_50 : decode (xC k_L_clash) 50 = .ok (.getfield 47, 3) := by decide +kernel
theorem d_L_clash_53 : decode (xC k_L_clash) 53 = .ok (.iadd, 1) := by decide +kernel
theorem d_L_clash_54 : decode (xC k_L_clash) 54 = .ok (.if_icmp .ge 51, 3) := by decide +kernel
theorem d_L_clash_57 : decode (xC k_L_clash) 57 = .ok (.aload_n 0, 1) := by decide +kernel
theorem d_L_clash_58 : decode (xC k_L_clash) 58 = .ok (.iload 4, 2) := by decide +kernel
theorem d_L_clash_60 : decode (xC k_L_clash) 60 = .ok (.invokevirtual 218, 3) := by decide +kernel
theorem d_L_clash_63 : decode (xC k_L_clash) 63 = .ok (.aload_n 0, 1) := by decide +kernel
theorem d_L_clash_64 : decode (xC k_L_clash) 64 = .ok (.iload 5, 2) := by decide +kernel
theorem d_L_clash_66 : decode (xC k_L_clash) 66 = .ok (.invokevirtual 218, 3) := by decide +kernel
theorem d_L_clash_69 : decode (xC k_L_clash) 69 = .ok (.invokestatic 222, 3) := by decide +kernel
theorem d_L_clash_72 : decode (xC k_L_clash) 72 = .ok (.ifCond .eq 27, 3) := by decide +kernel
theorem d_L_clash_75 : decode (xC k_L_clash) 75 = .ok (.iload_n 3, 1) := by decide +kernel
theorem d_L_clash_76 : decode (xC k_L_clash) 76 = .ok (.iload_n 1, 1) := by decide +kernel
theorem d_L_clash_77 : decode (xC k_L_clash) 77 = .ok (.if_icmp .ne 19, 3) := by decide +kernel
theorem d_L_clash_80 : decode (xC k_L_clash) 80 = .ok (.iload_n 2, 1) := by decide +kernel
theorem d_L_clash_81 : decode (xC k_L_clash) 81 = .ok (.ifCond .ne 8, 3) := by decide +kernel
theorem d_L_clash_84 : decode (xC k_L_clash) 84 = .ok (.iload 4, 2) := by decide +kernel
theorem d_L_clash_86 : decode (xC k_L_clash) 86 = .ok (.goto 9, 3) := by decide +kernel
theorem d_L_clash_89 : decode (xC k_L_clash) 89 = .ok (.aload_n 0, 1) := by decide +kernel
theorem d_L_clash_90 : decode (xC k_L_clash) 90 = .ok (.iload 5, 2) := by decide +kernel
theorem d_L_clash_92 : decode (xC k_L_clash) 92 = .ok (.invokevirtual 226, 3) := by decide +kernel
theorem d_L_clash_95 : decode (xC k_L_clash) 95 = .ok (.ireturn, 1) := by decide +kernel
theorem d_L_clash_96 : decode (xC k_L_clash) 96 = .ok (.iinc 3 1, 3) := by decide +kernel
theorem d_L_clash_99 : decode (xC k_L_clash) 99 = .ok (.iinc 5 1, 3) := by decide +kernel
theorem d_L_clash_102 : decode (xC k_L_clash) 102 = .ok (.goto (-59), 3) := by decide +kernel
theorem d_L_clash_105 : decode (xC k_L_clash) 105 = .ok (.iinc 4 1, 3) := by decide +kernel
theorem d_L_clash_108 : decode (xC k_L_clash) 108 = .ok (.goto (-80), 3) := by decide +kernel
theorem d_L_clash_111 : decode (xC k_L_clash) 111 = .ok (.iconst (-1), 1) := by decide +kernel
theorem d_L_clash_112 : decode (xC k_L_clash) 112 = .ok (.ireturn, 1) := by decide +kernel
theorem d_L_days_0 : decode (xC k_L_days) 0 = .ok (.aload_n 0, 1) := by decide +kernel
theorem d_L_days_1 : decode (xC k_L_days) 1 = .ok (.iload_n 1, 1) := by decide +kernel
theorem d_L_days_2 : decode (xC k_L_days) 2 = .ok (.invokevirtual 149, 3) := by decide +kernel
theorem d_L_days_5 : decode (xC k_L_days) 5 = .ok (.getfield 160, 3) := by decide +kernel
theorem d_L_days_8 : decode (xC k_L_days) 8 = .ok (.invokevirtual 230, 3) := by decide +kernel
theorem d_L_days_11 : decode (xC k_L_days) 11 = .ok (.ireturn, 1) := by decide +kernel
theorem d_L_fee_0 : decode (xC k_L_fee) 0 = .ok (.aload_n 0, 1) := by decide +kernel
theorem d_L_fee_1 : decode (xC k_L_fee) 1 = .ok (.iload_n 1, 1) := by decide +kernel
theorem d_L_fee_2 : decode (xC k_L_fee) 2 = .ok (.invokevirtual 149, 3) := by decide +kernel
theorem d_L_fee_5 : decode (xC k_L_fee) 5 = .ok (.invokevirtual 233, 3) := by decide +kernel
theorem d_L_fee_8 : decode (xC k_L_fee) 8 = .ok (.ireturn, 1) := by decide +kernel
theorem d_L_letter_0 : decode (xC k_L_letter) 0 = .ok (.aload_n 0, 1) := by decide +kernel
theorem d_L_letter_1 : decode (xC k_L_letter) 1 = .ok (.iload_n 1, 1) := by decide +kernel
theorem d_L_letter_2 : decode (xC k_L_letter) 2 = .ok (.invokevirtual 149, 3) := by decide +kernel
theorem d_L_letter_5 : decode (xC k_L_letter) 5 = .ok (.astore_n 3, 1) := by decide +kernel
theorem d_L_letter_6 : decode (xC k_L_letter) 6 = .ok (.aload_n 0, 1) := by decide +kernel
theorem d_L_letter_7 : decode (xC k_L_letter) 7 = .ok (.getfield 16, 3) := by decide +kernel
theorem d_L_letter_10 : decode (xC k_L_letter) 10 = .ok (.invokevirtual 84, 3) := by decide +kernel
theorem d_L_letter_13 : decode (xC k_L_letter) 13 = .ok (.aload_n 0, 1) := by decide +kernel
theorem d_L_letter_14 : decode (xC k_L_letter) 14 = .ok (.getfield 16, 3) := by decide +kernel
theorem d_L_letter_17 : decode (xC k_L_letter) 17 = .ok (.bipush 35, 2) := by decide +kernel
theorem d_L_letter_19 : decode (xC k_L_letter) 19 = .ok (.invokevirtual 69, 3) := by decide +kernel
theorem d_L_letter_22 : decode (xC k_L_letter) 22 = .ok (.aload_n 0, 1) := by decide +kernel
theorem d_L_letter_23 : decode (xC k_L_letter) 23 = .ok (.getfield 16, 3) := by decide +kernel
theorem d_L_letter_26 : decode (xC k_L_letter) 26 = .ok (.iload_n 1, 1) := by decide +kernel
theorem d_L_letter_27 : decode (xC k_L_letter) 27 = .ok (.invokevirtual 236, 3) := by decide +kernel
theorem d_L_letter_30 : decode (xC k_L_letter) 30 = .ok (.aload_n 0, 1) := by decide +kernel
theorem d_L_letter_31 : decode (xC k_L_letter) 31 = .ok (.getfield 16, 3) := by decide +kernel
theorem d_L_letter_34 : decode (xC k_L_letter) 34 = .ok (.bipush 64, 2) := by decide +kernel
theorem d_L_letter_36 : decode (xC k_L_letter) 36 = .ok (.invokevirtual 69, 3) := by decide +kernel
theorem d_L_letter_39 : decode (xC k_L_letter) 39 = .ok (.aload_n 0, 1) := by decide +kernel
theorem d_L_letter_40 : decode (xC k_L_letter) 40 = .ok (.getfield 16, 3) := by decide +kernel
theorem d_L_letter_43 : decode (xC k_L_letter) 43 = .ok (.aload_n 3, 1) := by decide +kernel
theorem d_L_letter_44 : decode (xC k_L_letter) 44 = .ok (.getfield 160, 3) := by decide +kernel
theorem d_L_letter_47 : decode (xC k_L_letter) 47 = .ok (.getfield 210, 3) := by decide +kernel
theorem d_L_letter_50 : decode (xC k_L_letter) 50 = .ok (.invokevirtual 236, 3) := by decide +kernel
theorem d_L_letter_53 : decode (xC k_L_letter) 53 = .ok (.aload_n 0, 1) := by decide +kernel
theorem d_L_letter_54 : decode (xC k_L_letter) 54 = .ok (.getfield 16, 3) := by decide +kernel
theorem d_L_letter_57 : decode (xC k_L_letter) 57 = .ok (.bipush 58, 2) := by decide +kernel
theorem d_L_letter_59 : decode (xC k_L_letter) 59 = .ok (.invokevirtual 69, 3) := by decide +kernel
theorem d_L_letter_62 : decode (xC k_L_letter) 62 = .ok (.aload_n 0, 1) := by decide +kernel
theorem d_L_letter_63 : decode (xC k_L_letter) 63 = .ok (.getfield 16, 3) := by decide +kernel
theorem d_L_letter_66 : decode (xC k_L_letter) 66 = .ok (.aload_n 3, 1) := by decide +kernel
theorem d_L_letter_67 : decode (xC k_L_letter) 67 = .ok (.getfield 160, 3) := by decide +kernel
theorem d_L_letter_70 : decode (xC k_L_letter) 70 = .ok (.getfield 213, 3) := by decide +kernel
theorem d_L_letter_73 : decode (xC k_L_letter) 73 = .ok (.invokevirtual 236, 3) := by decide +kernel
theorem d_L_letter_76 : decode (xC k_L_letter) 76 = .ok (.aload_n 0, 1) := by decide +kernel
theorem d_L_letter_77 : decode (xC k_L_letter) 77 = .ok (.getfield 16, 3) := by decide +kernel
theorem d_L_letter_80 : decode (xC k_L_letter) 80 = .ok (.bipush 45, 2) := by decide +kernel
theorem d_L_letter_82 : decode (xC k_L_letter) 82 = .ok (.invokevirtual 69, 3) := by decide +kernel
theorem d_L_letter_85 : decode (xC k_L_letter) 85 = .ok (.aload_n 0, 1) := by decide +kernel
theorem d_L_letter_86 : decode (xC k_L_letter) 86 = .ok (.getfield 16, 3) := by decide +kernel
theorem d_L_letter_89 : decode (xC k_L_letter) 89 = .ok (.aload_n 3, 1) := by decide +kernel
theorem d_L_letter_90 : decode (xC k_L_letter) 90 = .ok (.getfield 160, 3) := by decide +kernel
theorem d_L_letter_93 : decode (xC k_L_letter) 93 = .ok (.getfield 207, 3) := by decide +kernel
theorem d_L_letter_96 : decode (xC k_L_letter) 96 = .ok (.invokevirtual 236, 3) := by decide +kernel
theorem d_L_letter_99 : decode (xC k_L_letter) 99 = .ok (.aload_n 0, 1) := by decide +kernel
theorem d_L_letter_100 : decode (xC k_L_letter) 100 = .ok (.getfield 16, 3) := by decide +kernel
theorem d_L_letter_103 : decode (xC k_L_letter) 103 = .ok (.bipush 61, 2) := by decide +kernel
theorem d_L_letter_105 : decode (xC k_L_letter) 105 = .ok (.invokevirtual 69, 3) := by decide +kernel
theorem d_L_letter_108 : decode (xC k_L_letter) 108 = .ok (.aload_n 0, 1) := by decide +kernel
theorem d_L_letter_109 : decode (xC k_L_letter) 109 = .ok (.getfield 16, 3) := by decide +kernel
theorem d_L_letter_112 : decode (xC k_L_letter) 112 = .ok (.aload_n 3, 1) := by decide +kernel
theorem d_L_letter_113 : decode (xC k_L_letter) 113 = .ok (.invokevirtual 233, 3) := by decide +kernel
theorem d_L_letter_116 : decode (xC k_L_letter) 116 = .ok (.invokevirtual 236, 3) := by decide +kernel
theorem d_L_letter_119 : decode (xC k_L_letter) 119 = .ok (.iconst 0, 1) := by decide +kernel
theorem d_L_letter_120 : decode (xC k_L_letter) 120 = .ok (.istore 4, 2) := by decide +kernel
theorem d_L_letter_122 : decode (xC k_L_letter) 122 = .ok (.iload 4, 2) := by decide +kernel
theorem d_L_letter_124 : decode (xC k_L_letter) 124 = .ok (.aload_n 3, 1) := by decide +kernel
theorem d_L_letter_125 : decode (xC k_L_letter) 125 = .ok (.getfield 190, 3) := by decide +kernel
theorem d_L_letter_128 : decode (xC k_L_letter) 128 = .ok (.if_icmp .ge 32, 3) := by decide +kernel
theorem d_L_letter_131 : decode (xC k_L_letter) 131 = .ok (.aload_n 0, 1) := by decide +kernel
theorem d_L_letter_132 : decode (xC k_L_letter) 132 = .ok (.getfield 16, 3) := by decide +kernel
theorem d_L_letter_135 : decode (xC k_L_letter) 135 = .ok (.bipush 33, 2) := by decide +kernel
theorem d_L_letter_137 : decode (xC k_L_letter) 137 = .ok (.invokevirtual 69, 3) := by decide +kernel
theorem d_L_letter_140 : decode (xC k_L_letter) 140 = .ok (.aload_n 0, 1) := by decide +kernel
theorem d_L_letter_141 : decode (xC k_L_letter) 141 = .ok (.getfield 16, 3) := by decide +kernel
theorem d_L_letter_144 : decode (xC k_L_letter) 144 = .ok (.aload_n 3, 1) := by decide +kernel
theorem d_L_letter_145 : decode (xC k_L_letter) 145 = .ok (.getfield 199, 3) := by decide +kernel
theorem d_L_letter_148 : decode (xC k_L_letter) 148 = .ok (.iload 4, 2) := by decide +kernel
theorem d_L_letter_150 : decode (xC k_L_letter) 150 = .ok (.iaload, 1) := by decide +kernel
theorem d_L_letter_151 : decode (xC k_L_letter) 151 = .ok (.invokevirtual 236, 3) := by decide +kernel
theorem d_L_letter_154 : decode (xC k_L_letter) 154 = .ok (.iinc 4 1, 3) := by decide +kernel
theorem d_L_letter_157 : decode (xC k_L_letter) 157 = .ok (.goto (-35), 3) := by decide +kernel
theorem d_L_letter_160 : decode (xC k_L_letter) 160 = .ok (.aload_n 0, 1) := by decide +kernel
theorem d_L_letter_161 : decode (xC k_L_letter) 161 = .ok (.getfield 16, 3) := by decide +kernel
theorem d_L_letter_164 : decode (xC k_L_letter) 164 = .ok (.iload_n 2, 1) := by decide +kernel
theorem d_L_letter_165 : decode (xC k_L_letter) 165 = .ok (.invokestatic 98, 3) := by decide +kernel
theorem d_L_letter_168 : decode (xC k_L_letter) 168 = .ok (.ireturn, 1) := by decide +kernel
theorem d_L_count_0 : decode (xC k_L_count) 0 = .ok (.iload_n 1, 1) := by decide +kernel
theorem d_L_count_1 : decode (xC k_L_count) 1 = .ok (.tableswitch 63 0 4 #[35, 43, 48, 53, 58], 35) := by decide +kernel
theorem d_L_count_36 : decode (xC k_L_count) 36 = .ok (.aload_n 0, 1) := by decide +kernel
theorem d_L_count_37 : decode (xC k_L_count) 37 = .ok (.getfield 10, 3) := by decide +kernel
theorem d_L_count_40 : decode (xC k_L_count) 40 = .ok (.getfield 54, 3) := by decide +kernel
theorem d_L_count_43 : decode (xC k_L_count) 43 = .ok (.ireturn, 1) := by decide +kernel
theorem d_L_count_44 : decode (xC k_L_count) 44 = .ok (.aload_n 0, 1) := by decide +kernel
theorem d_L_count_45 : decode (xC k_L_count) 45 = .ok (.getfield 43, 3) := by decide +kernel
theorem d_L_count_48 : decode (xC k_L_count) 48 = .ok (.ireturn, 1) := by decide +kernel
theorem d_L_count_49 : decode (xC k_L_count) 49 = .ok (.aload_n 0, 1) := by decide +kernel
theorem d_L_count_50 : decode (xC k_L_count) 50 = .ok (.getfield 47, 3) := by decide +kernel
theorem d_L_count_53 : decode (xC k_L_count) 53 = .ok (.ireturn, 1) := by decide +kernel
theorem d_L_count_54 : decode (xC k_L_count) 54 = .ok (.aload_n 0, 1) := by decide +kernel
theorem d_L_count_55 : decode (xC k_L_count) 55 = .ok (.getfield 50, 3) := by decide +kernel
theorem d_L_count_58 : decode (xC k_L_count) 58 = .ok (.ireturn, 1) := by decide +kernel
theorem d_L_count_59 : decode (xC k_L_count) 59 = .ok (.aload_n 0, 1) := by decide +kernel
theorem d_L_count_60 : decode (xC k_L_count) 60 = .ok (.invokevirtual 239, 3) := by decide +kernel
theorem d_L_count_63 : decode (xC k_L_count) 63 = .ok (.ireturn, 1) := by decide +kernel
theorem d_L_count_64 : decode (xC k_L_count) 64 = .ok (.new 185, 3) := by decide +kernel
theorem d_L_count_67 : decode (xC k_L_count) 67 = .ok (.dup, 1) := by decide +kernel
theorem d_L_count_68 : decode (xC k_L_count) 68 = .ok (.ldc 242, 2) := by decide +kernel
theorem d_L_count_70 : decode (xC k_L_count) 70 = .ok (.invokespecial 189, 3) := by decide +kernel
theorem d_L_count_73 : decode (xC k_L_count) 73 = .ok (.athrow, 1) := by decide +kernel
theorem d_L_inputRows_0 : decode (xC k_L_inputRows) 0 = .ok (.iconst 0, 1) := by decide +kernel
theorem d_L_inputRows_1 : decode (xC k_L_inputRows) 1 = .ok (.istore_n 1, 1) := by decide +kernel
theorem d_L_inputRows_2 : decode (xC k_L_inputRows) 2 = .ok (.iconst 0, 1) := by decide +kernel
theorem d_L_inputRows_3 : decode (xC k_L_inputRows) 3 = .ok (.istore_n 2, 1) := by decide +kernel
theorem d_L_inputRows_4 : decode (xC k_L_inputRows) 4 = .ok (.iload_n 2, 1) := by decide +kernel
theorem d_L_inputRows_5 : decode (xC k_L_inputRows) 5 = .ok (.bipush 8, 2) := by decide +kernel
theorem d_L_inputRows_7 : decode (xC k_L_inputRows) 7 = .ok (.if_icmp .ge 20, 3) := by decide +kernel
theorem d_L_inputRows_10 : decode (xC k_L_inputRows) 10 = .ok (.iload_n 1, 1) := by decide +kernel
theorem d_L_inputRows_11 : decode (xC k_L_inputRows) 11 = .ok (.aload_n 0, 1) := by decide +kernel
theorem d_L_inputRows_12 : decode (xC k_L_inputRows) 12 = .ok (.iload_n 2, 1) := by decide +kernel
theorem d_L_inputRows_13 : decode (xC k_L_inputRows) 13 = .ok (.invokevirtual 102, 3) := by decide +kernel
theorem d_L_inputRows_16 : decode (xC k_L_inputRows) 16 = .ok (.getfield 106, 3) := by decide +kernel
theorem d_L_inputRows_19 : decode (xC k_L_inputRows) 19 = .ok (.iadd, 1) := by decide +kernel
theorem d_L_inputRows_20 : decode (xC k_L_inputRows) 20 = .ok (.istore_n 1, 1) := by decide +kernel
theorem d_L_inputRows_21 : decode (xC k_L_inputRows) 21 = .ok (.iinc 2 1, 3) := by decide +kernel
theorem d_L_inputRows_24 : decode (xC k_L_inputRows) 24 = .ok (.goto (-20), 3) := by decide +kernel
theorem d_L_inputRows_27 : decode (xC k_L_inputRows) 27 = .ok (.iload_n 1, 1) := by decide +kernel
theorem d_L_inputRows_28 : decode (xC k_L_inputRows) 28 = .ok (.ireturn, 1) := by decide +kernel
theorem d_L_contractOf_0 : decode (xC k_L_contractOf) 0 = .ok (.iload_n 1, 1) := by decide +kernel
theorem d_L_contractOf_1 : decode (xC k_L_contractOf) 1 = .ok (.ifCond .lt 18, 3) := by decide +kernel
theorem d_L_contractOf_4 : decode (xC k_L_contractOf) 4 = .ok (.iload_n 1, 1) := by decide +kernel
theorem d_L_contractOf_5 : decode (xC k_L_contractOf) 5 = .ok (.bipush 8, 2) := by decide +kernel
theorem d_L_contractOf_7 : decode (xC k_L_contractOf) 7 = .ok (.if_icmp .ge 12, 3) := by decide +kernel
theorem d_L_contractOf_10 : decode (xC k_L_contractOf) 10 = .ok (.aload_n 0, 1) := by decide +kernel
theorem d_L_contractOf_11 : decode (xC k_L_contractOf) 11 = .ok (.getfield 21, 3) := by decide +kernel
theorem d_L_contractOf_14 : decode (xC k_L_contractOf) 14 = .ok (.iload_n 1, 1) := by decide +kernel
theorem d_L_contractOf_15 : decode (xC k_L_contractOf) 15 = .ok (.aaload, 1) := by decide +kernel
theorem d_L_contractOf_16 : decode (xC k_L_contractOf) 16 = .ok (.goto 4, 3) := by decide +kernel
theorem d_L_contractOf_19 : decode (xC k_L_contractOf) 19 = .ok (.aconst_null, 1) := by decide +kernel
theorem d_L_contractOf_20 : decode (xC k_L_contractOf) 20 = .ok (.astore_n 2, 1) := by decide +kernel
theorem d_L_contractOf_21 : decode (xC k_L_contractOf) 21 = .ok (.aload_n 2, 1) := by decide +kernel
theorem d_L_contractOf_22 : decode (xC k_L_contractOf) 22 = .ok (.ifnonnull 13, 3) := by decide +kernel
theorem d_L_contractOf_25 : decode (xC k_L_contractOf) 25 = .ok (.new 185, 3) := by decide +kernel
theorem d_L_contractOf_28 : decode (xC k_L_contractOf) 28 = .ok (.dup, 1) := by decide +kernel
theorem d_L_contractOf_29 : decode (xC k_L_contractOf) 29 = .ok (.ldc 244, 2) := by decide +kernel
theorem d_L_contractOf_31 : decode (xC k_L_contractOf) 31 = .ok (.invokespecial 189, 3) := by decide +kernel
theorem d_L_contractOf_34 : decode (xC k_L_contractOf) 34 = .ok (.athrow, 1) := by decide +kernel
theorem d_L_contractOf_35 : decode (xC k_L_contractOf) 35 = .ok (.aload_n 2, 1) := by decide +kernel
theorem d_L_contractOf_36 : decode (xC k_L_contractOf) 36 = .ok (.areturn, 1) := by decide +kernel
theorem d_L_inputOf_0 : decode (xC k_L_inputOf) 0 = .ok (.iload_n 1, 1) := by decide +kernel
theorem d_L_inputOf_1 : decode (xC k_L_inputOf) 1 = .ok (.ifCond .lt 18, 3) := by decide +kernel
theorem d_L_inputOf_4 : decode (xC k_L_inputOf) 4 = .ok (.iload_n 1, 1) := by decide +kernel
theorem d_L_inputOf_5 : decode (xC k_L_inputOf) 5 = .ok (.bipush 8, 2) := by decide +kernel
theorem d_L_inputOf_7 : decode (xC k_L_inputOf) 7 = .ok (.if_icmp .ge 12, 3) := by decide +kernel
theorem d_L_inputOf_10 : decode (xC k_L_inputOf) 10 = .ok (.aload_n 0, 1) := by decide +kernel
theorem d_L_inputOf_11 : decode (xC k_L_inputOf) 11 = .ok (.getfield 27, 3) := by decide +kernel
theorem d_L_inputOf_14 : decode (xC k_L_inputOf) 14 = .ok (.iload_n 1, 1) := by decide +kernel
theorem d_L_inputOf_15 : decode (xC k_L_inputOf) 15 = .ok (.aaload, 1) := by decide +kernel
theorem d_L_inputOf_16 : decode (xC k_L_inputOf) 16 = .ok (.goto 4, 3) := by decide +kernel
theorem d_L_inputOf_19 : decode (xC k_L_inputOf) 19 = .ok (.aconst_null, 1) := by decide +kernel
theorem d_L_inputOf_20 : decode (xC k_L_inputOf) 20 = .ok (.astore_n 2, 1) := by decide +kernel
theorem d_L_inputOf_21 : decode (xC k_L_inputOf) 21 = .ok (.aload_n 2, 1) := by decide +kernel
theorem d_L_inputOf_22 : decode (xC k_L_inputOf) 22 = .ok (.ifnonnull 13, 3) := by decide +kernel
theorem d_L_inputOf_25 : decode (xC k_L_inputOf) 25 = .ok (.new 185, 3) := by decide +kernel
theorem d_L_inputOf_28 : decode (xC k_L_inputOf) 28 = .ok (.dup, 1) := by decide +kernel
theorem d_L_inputOf_29 : decode (xC k_L_inputOf) 29 = .ok (.ldc 246, 2) := by decide +kernel
theorem d_L_inputOf_31 : decode (xC k_L_inputOf) 31 = .ok (.invokespecial 189, 3) := by decide +kernel
theorem d_L_inputOf_34 : decode (xC k_L_inputOf) 34 = .ok (.athrow, 1) := by decide +kernel
theorem d_L_inputOf_35 : decode (xC k_L_inputOf) 35 = .ok (.aload_n 2, 1) := by decide +kernel
theorem d_L_inputOf_36 : decode (xC k_L_inputOf) 36 = .ok (.areturn, 1) := by decide +kernel
theorem d_L_loanOf_0 : decode (xC k_L_loanOf) 0 = .ok (.iload_n 1, 1) := by decide +kernel
theorem d_L_loanOf_1 : decode (xC k_L_loanOf) 1 = .ok (.ifCond .lt 18, 3) := by decide +kernel
theorem d_L_loanOf_4 : decode (xC k_L_loanOf) 4 = .ok (.iload_n 1, 1) := by decide +kernel
theorem d_L_loanOf_5 : decode (xC k_L_loanOf) 5 = .ok (.bipush 20, 2) := by decide +kernel
theorem d_L_loanOf_7 : decode (xC k_L_loanOf) 7 = .ok (.if_icmp .ge 12, 3) := by decide +kernel
theorem d_L_loanOf_10 : decode (xC k_L_loanOf) 10 = .ok (.aload_n 0, 1) := by decide +kernel
theorem d_L_loanOf_11 : decode (xC k_L_loanOf) 11 = .ok (.getfield 33, 3) := by decide +kernel
theorem d_L_loanOf_14 : decode (xC k_L_loanOf) 14 = .ok (.iload_n 1, 1) := by decide +kernel
theorem d_L_loanOf_15 : decode (xC k_L_loanOf) 15 = .ok (.aaload, 1) := by decide +kernel
theorem d_L_loanOf_16 : decode (xC k_L_loanOf) 16 = .ok (.goto 4, 3) := by decide +kernel
theorem d_L_loanOf_19 : decode (xC k_L_loanOf) 19 = .ok (.aconst_null, 1) := by decide +kernel
theorem d_L_loanOf_20 : decode (xC k_L_loanOf) 20 = .ok (.astore_n 2, 1) := by decide +kernel
theorem d_L_loanOf_21 : decode (xC k_L_loanOf) 21 = .ok (.aload_n 2, 1) := by decide +kernel
theorem d_L_loanOf_22 : decode (xC k_L_loanOf) 22 = .ok (.ifnonnull 13, 3) := by decide +kernel
theorem d_L_loanOf_25 : decode (xC k_L_loanOf) 25 = .ok (.new 185, 3) := by decide +kernel
theorem d_L_loanOf_28 : decode (xC k_L_loanOf) 28 = .ok (.dup, 1) := by decide +kernel
theorem d_L_loanOf_29 : decode (xC k_L_loanOf) 29 = .ok (.ldc 248, 2) := by decide +kernel
theorem d_L_loanOf_31 : decode (xC k_L_loanOf) 31 = .ok (.invokespecial 189, 3) := by decide +kernel
theorem d_L_loanOf_34 : decode (xC k_L_loanOf) 34 = .ok (.athrow, 1) := by decide +kernel
theorem d_L_loanOf_35 : decode (xC k_L_loanOf) 35 = .ok (.aload_n 2, 1) := by decide +kernel
theorem d_L_loanOf_36 : decode (xC k_L_loanOf) 36 = .ok (.areturn, 1) := by decide +kernel
theorem d_L_spanAt_0 : decode (xC k_L_spanAt) 0 = .ok (.iload_n 1, 1) := by decide +kernel
theorem d_L_spanAt_1 : decode (xC k_L_spanAt) 1 = .ok (.ifCond .lt 18, 3) := by decide +kernel
theorem d_L_spanAt_4 : decode (xC k_L_spanAt) 4 = .ok (.iload_n 1, 1) := by decide +kernel
theorem d_L_spanAt_5 : decode (xC k_L_spanAt) 5 = .ok (.aload_n 0, 1) := by decide +kernel
theorem d_L_spanAt_6 : decode (xC k_L_spanAt) 6 = .ok (.getfield 50, 3) := by decide +kernel
theorem d_L_spanAt_9 : decode (xC k_L_spanAt) 9 = .ok (.if_icmp .ge 10, 3) := by decide +kernel
theorem d_L_spanAt_12 : decode (xC k_L_spanAt) 12 = .ok (.aload_n 0, 1) := by decide +kernel
theorem d_L_spanAt_13 : decode (xC k_L_spanAt) 13 = .ok (.getfield 39, 3) := by decide +kernel
theorem d_L_spanAt_16 : decode (xC k_L_spanAt) 16 = .ok (.iload_n 1, 1) := by decide +kernel
theorem d_L_spanAt_17 : decode (xC k_L_spanAt) 17 = .ok (.aaload, 1) := by decide +kernel
theorem d_L_spanAt_18 : decode (xC k_L_spanAt) 18 = .ok (.areturn, 1) := by decide +kernel
theorem d_L_spanAt_19 : decode (xC k_L_spanAt) 19 = .ok (.iload_n 1, 1) := by decide +kernel
theorem d_L_spanAt_20 : decode (xC k_L_spanAt) 20 = .ok (.aload_n 0, 1) := by decide +kernel
theorem d_L_spanAt_21 : decode (xC k_L_spanAt) 21 = .ok (.getfield 50, 3) := by decide +kernel
theorem d_L_spanAt_24 : decode (xC k_L_spanAt) 24 = .ok (.isub, 1) := by decide +kernel
theorem d_L_spanAt_25 : decode (xC k_L_spanAt) 25 = .ok (.istore_n 2, 1) := by decide +kernel
theorem d_L_spanAt_26 : decode (xC k_L_spanAt) 26 = .ok (.iload_n 2, 1) := by decide +kernel
theorem d_L_spanAt_27 : decode (xC k_L_spanAt) 27 = .ok (.ifCond .lt 22, 3) := by decide +kernel
theorem d_L_spanAt_30 : decode (xC k_L_spanAt) 30 = .ok (.iload_n 2, 1) := by decide +kernel
theorem d_L_spanAt_31 : decode (xC k_L_spanAt) 31 = .ok (.aload_n 0, 1) := by decide +kernel
theorem d_L_spanAt_32 : decode (xC k_L_spanAt) 32 = .ok (.getfield 47, 3) := by decide +kernel
theorem d_L_spanAt_35 : decode (xC k_L_spanAt) 35 = .ok (.if_icmp .ge 14, 3) := by decide +kernel
theorem d_L_spanAt_38 : decode (xC k_L_spanAt) 38 = .ok (.aload_n 0, 1) := by decide +kernel
theorem d_L_spanAt_39 : decode (xC k_L_spanAt) 39 = .ok (.iload_n 2, 1) := by decide +kernel
theorem d_L_spanAt_40 : decode (xC k_L_spanAt) 40 = .ok (.invokevirtual 149, 3) := by decide +kernel
theorem d_L_spanAt_43 : decode (xC k_L_spanAt) 43 = .ok (.getfield 160, 3) := by decide +kernel
theorem d_L_spanAt_46 : decode (xC k_L_spanAt) 46 = .ok (.goto 4, 3) := by decide +kernel
theorem d_L_spanAt_49 : decode (xC k_L_spanAt) 49 = .ok (.aconst_null, 1) := by decide +kernel
theorem d_L_spanAt_50 : decode (xC k_L_spanAt) 50 = .ok (.areturn, 1) := by decide +kernel
theorem d_L_numberAt_0 : decode (xC k_L_numberAt) 0 = .ok (.iload_n 1, 1) := by decide +kernel
theorem d_L_numberAt_1 : decode (xC k_L_numberAt) 1 = .ok (.aload_n 0, 1) := by decide +kernel
theorem d_L_numberAt_2 : decode (xC k_L_numberAt) 2 = .ok (.getfield 50, 3) := by decide +kernel
theorem d_L_numberAt_5 : decode (xC k_L_numberAt) 5 = .ok (.if_icmp .ge 7, 3) := by decide +kernel
theorem d_L_numberAt_8 : decode (xC k_L_numberAt) 8 = .ok (.iload_n 1, 1) := by decide +kernel
theorem d_L_numberAt_9 : decode (xC k_L_numberAt) 9 = .ok (.goto 12, 3) := by decide +kernel
theorem d_L_numberAt_12 : decode (xC k_L_numberAt) 12 = .ok (.bipush 100, 2) := by decide +kernel
theorem d_L_numberAt_14 : decode (xC k_L_numberAt) 14 = .ok (.iload_n 1, 1) := by decide +kernel
theorem d_L_numberAt_15 : decode (xC k_L_numberAt) 15 = .ok (.iadd, 1) := by decide +kernel
theorem d_L_numberAt_16 : decode (xC k_L_numberAt) 16 = .ok (.aload_n 0, 1) := by decide +kernel
theorem d_L_numberAt_17 : decode (xC k_L_numberAt) 17 = .ok (.getfield 50, 3) := by decide +kernel
theorem d_L_numberAt_20 : decode (xC k_L_numberAt) 20 = .ok (.isub, 1) := by decide +kernel
theorem d_L_numberAt_21 : decode (xC k_L_numberAt) 21 = .ok (.ireturn, 1) := by decide +kernel
theorem d_L_clashesWithLoan_0 : decode (xC k_L_clashesWithLoan) 0 = .ok (.iconst 0, 1) := by decide +kernel
theorem d_L_clashesWithLoan_1 : decode (xC k_L_clashesWithLoan) 1 = .ok (.istore_n 3, 1) := by decide +kernel
theorem d_L_clashesWithLoan_2 : decode (xC k_L_clashesWithLoan) 2 = .ok (.iload_n 3, 1) := by decide +kernel
theorem d_L_clashesWithLoan_3 : decode (xC k_L_clashesWithLoan) 3 = .ok (.aload_n 0, 1) := by decide +kernel
theorem d_L_clashesWithLoan_4 : decode (xC k_L_clashesWithLoan) 4 = .ok (.getfield 47, 3) := by decide +kernel
theorem d_L_clashesWithLoan_7 : decode (xC k_L_clashesWithLoan) 7 = .ok (.if_icmp .ge 31, 3) := by decide +kernel
theorem d_L_clashesWithLoan_10 : decode (xC k_L_clashesWithLoan) 10 = .ok (.iload_n 3, 1) := by decide +kernel
theorem d_L_clashesWithLoan_11 : decode (xC k_L_clashesWithLoan) 11 = .ok (.iload_n 2, 1) := by decide +kernel
theorem d_L_clashesWithLoan_12 : decode (xC k_L_clashesWithLoan) 12 = .ok (.if_icmp .eq 20, 3) := by decide +kernel
theorem d_L_clashesWithLoan_15 : decode (xC k_L_clashesWithLoan) 15 = .ok (.aload_n 1, 1) := by decide +kernel
theorem d_L_clashesWithLoan_16 : decode (xC k_L_clashesWithLoan) 16 = .ok (.aload_n 0, 1) := by decide +kernel
theorem d_L_clashesWithLoan_17 : decode (xC k_L_clashesWithLoan) 17 = .ok (.iload_n 3, 1) := by decide +kernel
theorem d_L_clashesWithLoan_18 : decode (xC k_L_clashesWithLoan) 18 = .ok (.invokevirtual 149, 3) := by decide +kernel
theorem d_L_clashesWithLoan_21 : decode (xC k_L_clashesWithLoan) 21 = .ok (.getfield 160, 3) := by decide +kernel
theorem d_L_clashesWithLoan_24 : decode (xC k_L_clashesWithLoan) 24 = .ok (.invokestatic 222, 3) := by decide +kernel
theorem d_L_clashesWithLoan_27 : decode (xC k_L_clashesWithLoan) 27 = .ok (.ifCond .eq 5, 3) := by decide +kernel
theorem d_L_clashesWithLoan_30 : decode (xC k_L_clashesWithLoan) 30 = .ok (.iconst 1, 1) := by decide +kernel
theorem d_L_clashesWithLoan_31 : decode (xC k_L_clashesWithLoan) 31 = .ok (.ireturn, 1) := by decide +kernel
theorem d_L_clashesWithLoan_32 : decode (xC k_L_clashesWithLoan) 32 = .ok (.iinc 3 1, 3) := by decide +kernel
theorem d_L_clashesWithLoan_35 : decode (xC k_L_clashesWithLoan) 35 = .ok (.goto (-33), 3) := by decide +kernel
theorem d_L_clashesWithLoan_38 : decode (xC k_L_clashesWithLoan) 38 = .ok (.iconst 0, 1) := by decide +kernel
theorem d_L_clashesWithLoan_39 : decode (xC k_L_clashesWithLoan) 39 = .ok (.ireturn, 1) := by decide +kernel
theorem d_L_areClashing_0 : decode (xC k_L_areClashing) 0 = .ok (.aload_n 0, 1) := by decide +kernel
theorem d_L_areClashing_1 : decode (xC k_L_areClashing) 1 = .ok (.ifnull 44, 3) := by decide +kernel
theorem d_L_areClashing_4 : decode (xC k_L_areClashing) 4 = .ok (.aload_n 1, 1) := by decide +kernel
theorem d_L_areClashing_5 : decode (xC k_L_areClashing) 5 = .ok (.ifnull 40, 3) := by decide +kernel
theorem d_L_areClashing_8 : decode (xC k_L_areClashing) 8 = .ok (.aload_n 0, 1) := by decide +kernel
theorem d_L_areClashing_9 : decode (xC k_L_areClashing) 9 = .ok (.getfield 210, 3) := by decide +kernel
theorem d_L_areClashing_12 : decode (xC k_L_areClashing) 12 = .ok (.aload_n 1, 1) := by decide +kernel
theorem d_L_areClashing_13 : decode (xC k_L_areClashing) 13 = .ok (.getfield 210, 3) := by decide +kernel
theorem d_L_areClashing_16 : decode (xC k_L_areClashing) 16 = .ok (.if_icmp .ne 29, 3) := by decide +kernel
theorem d_L_areClashing_19 : decode (xC k_L_areClashing) 19 = .ok (.aload_n 0, 1) := by decide +kernel
theorem d_L_areClashing_20 : decode (xC k_L_areClashing) 20 = .ok (.getfield 213, 3) := by decide +kernel
theorem d_L_areClashing_23 : decode (xC k_L_areClashing) 23 = .ok (.aload_n 1, 1) := by decide +kernel
theorem d_L_areClashing_24 : decode (xC k_L_areClashing) 24 = .ok (.getfield 207, 3) := by decide +kernel
theorem d_L_areClashing_27 : decode (xC k_L_areClashing) 27 = .ok (.if_icmp .gt 18, 3) := by decide +kernel
theorem d_L_areClashing_30 : decode (xC k_L_areClashing) 30 = .ok (.aload_n 1, 1) := by decide +kernel
theorem d_L_areClashing_31 : decode (xC k_L_areClashing) 31 = .ok (.getfield 213, 3) := by decide +kernel
theorem d_L_areClashing_34 : decode (xC k_L_areClashing) 34 = .ok (.aload_n 0, 1) := by decide +kernel
theorem d_L_areClashing_35 : decode (xC k_L_areClashing) 35 = .ok (.getfield 207, 3) := by decide +kernel
theorem d_L_areClashing_38 : decode (xC k_L_areClashing) 38 = .ok (.if_icmp .gt 7, 3) := by decide +kernel
theorem d_L_areClashing_41 : decode (xC k_L_areClashing) 41 = .ok (.iconst 1, 1) := by decide +kernel
theorem d_L_areClashing_42 : decode (xC k_L_areClashing) 42 = .ok (.goto 4, 3) := by decide +kernel
theorem d_L_areClashing_45 : decode (xC k_L_areClashing) 45 = .ok (.iconst 0, 1) := by decide +kernel
theorem d_L_areClashing_46 : decode (xC k_L_areClashing) 46 = .ok (.ireturn, 1) := by decide +kernel
theorem d_L_signOrSize_0 : decode (xC k_L_signOrSize) 0 = .ok (.iload_n 1, 1) := by decide +kernel
theorem d_L_signOrSize_1 : decode (xC k_L_signOrSize) 1 = .ok (.iconst (-1), 1) := by decide +kernel
theorem d_L_signOrSize_2 : decode (xC k_L_signOrSize) 2 = .ok (.if_icmp .lt 11, 3) := by decide +kernel
theorem d_L_signOrSize_5 : decode (xC k_L_signOrSize) 5 = .ok (.iload_n 1, 1) := by decide +kernel
theorem d_L_signOrSize_6 : decode (xC k_L_signOrSize) 6 = .ok (.aload_n 0, 1) := by decide +kernel
theorem d_L_signOrSize_7 : decode (xC k_L_signOrSize) 7 = .ok (.getfield 54, 3) := by decide +kernel
theorem d_L_signOrSize_10 : decode (xC k_L_signOrSize) 10 = .ok (.if_icmp .lt 13, 3) := by decide +kernel
theorem d_L_signOrSize_13 : decode (xC k_L_signOrSize) 13 = .ok (.new 185, 3) := by decide +kernel
theorem d_L_signOrSize_16 : decode (xC k_L_signOrSize) 16 = .ok (.dup, 1) := by decide +kernel
theorem d_L_signOrSize_17 : decode (xC k_L_signOrSize) 17 = .ok (.ldc 250, 2) := by decide +kernel
theorem d_L_signOrSize_19 : decode (xC k_L_signOrSize) 19 = .ok (.invokespecial 189, 3) := by decide +kernel
theorem d_L_signOrSize_22 : decode (xC k_L_signOrSize) 22 = .ok (.athrow, 1) := by decide +kernel
theorem d_L_signOrSize_23 : decode (xC k_L_signOrSize) 23 = .ok (.iload_n 1, 1) := by decide +kernel
theorem d_L_signOrSize_24 : decode (xC k_L_signOrSize) 24 = .ok (.iconst (-1), 1) := by decide +kernel
theorem d_L_signOrSize_25 : decode (xC k_L_signOrSize) 25 = .ok (.if_icmp .ne 10, 3) := by decide +kernel
theorem d_L_signOrSize_28 : decode (xC k_L_signOrSize) 28 = .ok (.aload_n 0, 1) := by decide +kernel
theorem d_L_signOrSize_29 : decode (xC k_L_signOrSize) 29 = .ok (.getfield 54, 3) := by decide +kernel
theorem d_L_signOrSize_32 : decode (xC k_L_signOrSize) 32 = .ok (.goto 8, 3) := by decide +kernel
theorem d_L_signOrSize_35 : decode (xC k_L_signOrSize) 35 = .ok (.aload_n 0, 1) := by decide +kernel
theorem d_L_signOrSize_36 : decode (xC k_L_signOrSize) 36 = .ok (.iload_n 1, 1) := by decide +kernel
theorem d_L_signOrSize_37 : decode (xC k_L_signOrSize) 37 = .ok (.invokevirtual 252, 3) := by decide +kernel
theorem d_L_signOrSize_40 : decode (xC k_L_signOrSize) 40 = .ok (.ireturn, 1) := by decide +kernel
theorem d_L_isHour_0 : decode (xC k_L_isHour) 0 = .ok (.iload_n 0, 1) := by decide +kernel
theorem d_L_isHour_1 : decode (xC k_L_isHour) 1 = .ok (.ifCond .lt 13, 3) := by decide +kernel
theorem d_L_isHour_4 : decode (xC k_L_isHour) 4 = .ok (.iload_n 0, 1) := by decide +kernel
theorem d_L_isHour_5 : decode (xC k_L_isHour) 5 = .ok (.ldc 255, 2) := by decide +kernel
theorem d_L_isHour_7 : decode (xC k_L_isHour) 7 = .ok (.if_icmp .gt 7, 3) := by decide +kernel
theorem d_L_isHour_10 : decode (xC k_L_isHour) 10 = .ok (.iconst 1, 1) := by decide +kernel
theorem d_L_isHour_11 : decode (xC k_L_isHour) 11 = .ok (.goto 4, 3) := by decide +kernel
theorem d_L_isHour_14 : decode (xC k_L_isHour) 14 = .ok (.iconst 0, 1) := by decide +kernel
theorem d_L_isHour_15 : decode (xC k_L_isHour) 15 = .ok (.ireturn, 1) := by decide +kernel
theorem d_L_isDay_0 : decode (xC k_L_isDay) 0 = .ok (.iload_n 0, 1) := by decide +kernel
theorem d_L_isDay_1 : decode (xC k_L_isDay) 1 = .ok (.ifCond .lt 14, 3) := by decide +kernel
theorem d_L_isDay_4 : decode (xC k_L_isDay) 4 = .ok (.iload_n 0, 1) := by decide +kernel
theorem d_L_isDay_5 : decode (xC k_L_isDay) 5 = .ok (.ldc_w 256, 3) := by decide +kernel
theorem d_L_isDay_8 : decode (xC k_L_isDay) 8 = .ok (.if_icmp .gt 7, 3) := by decide +kernel
theorem d_L_isDay_11 : decode (xC k_L_isDay) 11 = .ok (.iconst 1, 1) := by decide +kernel
theorem d_L_isDay_12 : decode (xC k_L_isDay) 12 = .ok (.goto 4, 3) := by decide +kernel
theorem d_L_isDay_15 : decode (xC k_L_isDay) 15 = .ok (.iconst 0, 1) := by decide +kernel
theorem d_L_isDay_16 : decode (xC k_L_isDay) 16 = .ok (.ireturn, 1) := by decide +kernel
theorem d_L_refuseNoHour_0 : decode (xC k_L_refuseNoHour) 0 = .ok (.iload_n 0, 1) := by decide +kernel
theorem d_L_refuseNoHour_1 : decode (xC k_L_refuseNoHour) 1 = .ok (.invokestatic 109, 3) := by decide +kernel
theorem d_L_refuseNoHour_4 : decode (xC k_L_refuseNoHour) 4 = .ok (.ifCond .ne 14, 3) := by decide +kernel
theorem d_L_refuseNoHour_7 : decode (xC k_L_refuseNoHour) 7 = .ok (.new 64, 3) := by decide +kernel
theorem d_L_refuseNoHour_10 : decode (xC k_L_refuseNoHour) 10 = .ok (.dup, 1) := by decide +kernel
theorem d_L_refuseNoHour_11 : decode (xC k_L_refuseNoHour) 11 = .ok (.ldc_w 257, 3) := by decide +kernel
theorem d_L_refuseNoHour_14 : decode (xC k_L_refuseNoHour) 14 = .ok (.invokespecial 68, 3) := by decide +kernel
theorem d_L_refuseNoHour_17 : decode (xC k_L_refuseNoHour) 17 = .ok (.athrow, 1) := by decide +kernel
theorem d_L_refuseNoHour_18 : decode (xC k_L_refuseNoHour) 18 = .ok (.return_, 1) := by decide +kernel
theorem d_L_refuseNoDays_0 : decode (xC k_L_refuseNoDays) 0 = .ok (.iload_n 0, 1) := by decide +kernel
theorem d_L_refuseNoDays_1 : decode (xC k_L_refuseNoDays) 1 = .ok (.invokestatic 202, 3) := by decide +kernel
theorem d_L_refuseNoDays_4 : decode (xC k_L_refuseNoDays) 4 = .ok (.ifCond .eq 15, 3) := by decide +kernel
theorem d_L_refuseNoDays_7 : decode (xC k_L_refuseNoDays) 7 = .ok (.iload_n 1, 1) := by decide +kernel
theorem d_L_refuseNoDays_8 : decode (xC k_L_refuseNoDays) 8 = .ok (.invokestatic 202, 3) := by decide +kernel
theorem d_L_refuseNoDays_11 : decode (xC k_L_refuseNoDays) 11 = .ok (.ifCond .eq 8, 3) := by decide +kernel
theorem d_L_refuseNoDays_14 : decode (xC k_L_refuseNoDays) 14 = .ok (.iload_n 1, 1) := by decide +kernel
theorem d_L_refuseNoDays_15 : decode (xC k_L_refuseNoDays) 15 = .ok (.iload_n 0, 1) := by decide +kernel
theorem d_L_refuseNoDays_16 : decode (xC k_L_refuseNoDays) 16 = .ok (.if_icmp .ge 13, 3) := by decide +kernel
theorem d_L_refuseNoDays_19 : decode (xC k_L_refuseNoDays) 19 = .ok (.new 64, 3) := by decide +kernel
theorem d_L_refuseNoDays_22 : decode (xC k_L_refuseNoDays) 22 = .ok (.dup, 1) := by decide +kernel
theorem d_L_refuseNoDays_23 : decode (xC k_L_refuseNoDays) 23 = .ok (.ldc 205, 2) := by decide +kernel
theorem d_L_refuseNoDays_25 : decode (xC k_L_refuseNoDays) 25 = .ok (.invokespecial 68, 3) := by decide +kernel
theorem d_L_refuseNoDays_28 : decode (xC k_L_refuseNoDays) 28 = .ok (.athrow, 1) := by decide +kernel
theorem d_L_refuseNoDays_29 : decode (xC k_L_refuseNoDays) 29 = .ok (.return_, 1) := by decide +kernel
theorem d_L_refuseNoThing_0 : decode (xC k_L_refuseNoThing) 0 = .ok (.iload_n 0, 1) := by decide +kernel
theorem d_L_refuseNoThing_1 : decode (xC k_L_refuseNoThing) 1 = .ok (.ifCond .lt 9, 3) := by decide +kernel
theorem d_L_refuseNoThing_4 : decode (xC k_L_refuseNoThing) 4 = .ok (.iload_n 0, 1) := by decide +kernel
theorem d_L_refuseNoThing_5 : decode (xC k_L_refuseNoThing) 5 = .ok (.bipush 16, 2) := by decide +kernel
theorem d_L_refuseNoThing_7 : decode (xC k_L_refuseNoThing) 7 = .ok (.if_icmp .lt 14, 3) := by decide +kernel
theorem d_L_refuseNoThing_10 : decode (xC k_L_refuseNoThing) 10 = .ok (.new 185, 3) := by decide +kernel
theorem d_L_refuseNoThing_13 : decode (xC k_L_refuseNoThing) 13 = .ok (.dup, 1) := by decide +kernel
theorem d_L_refuseNoThing_14 : decode (xC k_L_refuseNoThing) 14 = .ok (.ldc_w 259, 3) := by decide +kernel
theorem d_L_refuseNoThing_17 : decode (xC k_L_refuseNoThing) 17 = .ok (.invokespecial 189, 3) := by decide +kernel
theorem d_L_refuseNoThing_20 : decode (xC k_L_refuseNoThing) 20 = .ok (.athrow, 1) := by decide +kernel
theorem d_L_refuseNoThing_21 : decode (xC k_L_refuseNoThing) 21 = .ok (.return_, 1) := by decide +kernel
theorem d_L_stateOf_0 : decode (xC k_L_stateOf) 0 = .ok (.aload_n 1, 1) := by decide +kernel
theorem d_L_stateOf_1 : decode (xC k_L_stateOf) 1 = .ok (.ifnull 10, 3) := by decide +kernel
theorem d_L_stateOf_4 : decode (xC k_L_stateOf) 4 = .ok (.iload 4, 2) := by decide +kernel
theorem d_L_stateOf_6 : decode (xC k_L_stateOf) 6 = .ok (.bipush 40, 2) := by decide +kernel
theorem d_L_stateOf_8 : decode (xC k_L_stateOf) 8 = .ok (.if_icmp .le 5, 3) := by decide +kernel
theorem d_L_stateOf_11 : decode (xC k_L_stateOf) 11 = .ok (.iconst 2, 1) := by decide +kernel
theorem d_L_stateOf_12 : decode (xC k_L_stateOf) 12 = .ok (.ireturn, 1) := by decide +kernel
theorem d_L_stateOf_13 : decode (xC k_L_stateOf) 13 = .ok (.aload_n 1, 1) := by decide +kernel
theorem d_L_stateOf_14 : decode (xC k_L_stateOf) 14 = .ok (.getfield 261, 3) := by decide +kernel
theorem d_L_stateOf_17 : decode (xC k_L_stateOf) 17 = .ok (.lookupswitch 63 #[(33, 35), (38, 53), (124, 53)], 35) := by decide +kernel
theorem d_L_stateOf_52 : decode (xC k_L_stateOf) 52 = .ok (.aload_n 0, 1) := by decide +kernel
theorem d_L_stateOf_53 : decode (xC k_L_stateOf) 53 = .ok (.aload_n 1, 1) := by decide +kernel
theorem d_L_stateOf_54 : decode (xC k_L_stateOf) 54 = .ok (.getfield 266, 3) := by decide +kernel
theorem d_L_stateOf_57 : decode (xC k_L_stateOf) 57 = .ok (.aload_n 2, 1) := by decide +kernel
theorem d_L_stateOf_58 : decode (xC k_L_stateOf) 58 = .ok (.iload_n 3, 1) := by decide +kernel
theorem d_L_stateOf_59 : decode (xC k_L_stateOf) 59 = .ok (.iload 4, 2) := by decide +kernel
theorem d_L_stateOf_61 : decode (xC k_L_stateOf) 61 = .ok (.iconst 1, 1) := by decide +kernel
theorem d_L_stateOf_62 : decode (xC k_L_stateOf) 62 = .ok (.iadd, 1) := by decide +kernel
theorem d_L_stateOf_63 : decode (xC k_L_stateOf) 63 = .ok (.invokevirtual 175, 3) := by decide +kernel
theorem d_L_stateOf_66 : decode (xC k_L_stateOf) 66 = .ok (.invokestatic 270, 3) := by decide +kernel
theorem d_L_stateOf_69 : decode (xC k_L_stateOf) 69 = .ok (.ireturn, 1) := by decide +kernel
theorem d_L_stateOf_70 : decode (xC k_L_stateOf) 70 = .ok (.aload_n 0, 1) := by decide +kernel
theorem d_L_stateOf_71 : decode (xC k_L_stateOf) 71 = .ok (.aload_n 1, 1) := by decide +kernel
theorem d_L_stateOf_72 : decode (xC k_L_stateOf) 72 = .ok (.aload_n 2, 1) := by decide +kernel
theorem d_L_stateOf_73 : decode (xC k_L_stateOf) 73 = .ok (.iload_n 3, 1) := by decide +kernel
theorem d_L_stateOf_74 : decode (xC k_L_stateOf) 74 = .ok (.iload 4, 2) := by decide +kernel
theorem d_L_stateOf_76 : decode (xC k_L_stateOf) 76 = .ok (.invokevirtual 273, 3) := by decide +kernel
theorem d_L_stateOf_79 : decode (xC k_L_stateOf) 79 = .ok (.ireturn, 1) := by decide +kernel
theorem d_L_stateOf_80 : decode (xC k_L_stateOf) 80 = .ok (.aload_n 0, 1) := by decide +kernel
theorem d_L_stateOf_81 : decode (xC k_L_stateOf) 81 = .ok (.aload_n 1, 1) := by decide +kernel
theorem d_L_stateOf_82 : decode (xC k_L_stateOf) 82 = .ok (.aload_n 2, 1) := by decide +kernel
theorem d_L_stateOf_83 : decode (xC k_L_stateOf) 83 = .ok (.iload_n 3, 1) := by decide +kernel
theorem d_L_stateOf_84 : decode (xC k_L_stateOf) 84 = .ok (.invokevirtual 276, 3) := by decide +kernel
theorem d_L_stateOf_87 : decode (xC k_L_stateOf) 87 = .ok (.ireturn, 1) := by decide +kernel
theorem d_L_stateOfGroup_0 : decode (xC k_L_stateOfGroup) 0 = .ok (.aload_n 1, 1) := by decide +kernel
theorem d_L_stateOfGroup_1 : decode (xC k_L_stateOfGroup) 1 = .ok (.getfield 261, 3) := by decide +kernel
theorem d_L_stateOfGroup_4 : decode (xC k_L_stateOfGroup) 4 = .ok (.bipush 124, 2) := by decide +kernel
theorem d_L_stateOfGroup_6 : decode (xC k_L_stateOfGroup) 6 = .ok (.if_icmp .ne 7, 3) := by decide +kernel
theorem d_L_stateOfGroup_9 : decode (xC k_L_stateOfGroup) 9 = .ok (.iconst 0, 1) := by decide +kernel
theorem d_L_stateOfGroup_10 : decode (xC k_L_stateOfGroup) 10 = .ok (.goto 4, 3) := by decide +kernel
theorem d_L_stateOfGroup_13 : decode (xC k_L_stateOfGroup) 13 = .ok (.iconst 1, 1) := by decide +kernel
theorem d_L_stateOfGroup_14 : decode (xC k_L_stateOfGroup) 14 = .ok (.istore 5, 2) := by decide +kernel
theorem d_L_stateOfGroup_16 : decode (xC k_L_stateOfGroup) 16 = .ok (.aload_n 1, 1) := by decide +kernel
theorem d_L_stateOfGroup_17 : decode (xC k_L_stateOfGroup) 17 = .ok (.getfield 266, 3) := by decide +kernel
theorem d_L_stateOfGroup_20 : decode (xC k_L_stateOfGroup) 20 = .ok (.astore 6, 2) := by decide +kernel
theorem d_L_stateOfGroup_22 : decode (xC k_L_stateOfGroup) 22 = .ok (.aload 6, 2) := by decide +kernel
theorem d_L_stateOfGroup_24 : decode (xC k_L_stateOfGroup) 24 = .ok (.ifnull 37, 3) := by decide +kernel
theorem d_L_stateOfGroup_27 : decode (xC k_L_stateOfGroup) 27 = .ok (.aload_n 0, 1) := by decide +kernel
theorem d_L_stateOfGroup_28 : decode (xC k_L_stateOfGroup) 28 = .ok (.aload 6, 2) := by decide +kernel
theorem d_L_stateOfGroup_30 : decode (xC k_L_stateOfGroup) 30 = .ok (.aload_n 2, 1) := by decide +kernel
theorem d_L_stateOfGroup_31 : decode (xC k_L_stateOfGroup) 31 = .ok (.iload_n 3, 1) := by decide +kernel
theorem d_L_stateOfGroup_32 : decode (xC k_L_stateOfGroup) 32 = .ok (.iload 4, 2) := by decide +kernel
theorem d_L_stateOfGroup_34 : decode (xC k_L_stateOfGroup) 34 = .ok (.iconst 1, 1) := by decide +kernel
theorem d_L_stateOfGroup_35 : decode (xC k_L_stateOfGroup) 35 = .ok (.iadd, 1) := by decide +kernel
theorem d_L_stateOfGroup_36 : decode (xC k_L_stateOfGroup) 36 = .ok (.invokevirtual 175, 3) := by decide +kernel
theorem d_L_stateOfGroup_39 : decode (xC k_L_stateOfGroup) 39 = .ok (.istore 7, 2) := by decide +kernel
theorem d_L_stateOfGroup_41 : decode (xC k_L_stateOfGroup) 41 = .ok (.iload 7, 2) := by decide +kernel
theorem d_L_stateOfGroup_43 : decode (xC k_L_stateOfGroup) 43 = .ok (.iload 5, 2) := by decide +kernel
theorem d_L_stateOfGroup_45 : decode (xC k_L_stateOfGroup) 45 = .ok (.if_icmp .eq 6, 3) := by decide +kernel
theorem d_L_stateOfGroup_48 : decode (xC k_L_stateOfGroup) 48 = .ok (.iload 7, 2) := by decide +kernel
theorem d_L_stateOfGroup_50 : decode (xC k_L_stateOfGroup) 50 = .ok (.ireturn, 1) := by decide +kernel
theorem d_L_stateOfGroup_51 : decode (xC k_L_stateOfGroup) 51 = .ok (.aload 6, 2) := by decide +kernel
theorem d_L_stateOfGroup_53 : decode (xC k_L_stateOfGroup) 53 = .ok (.getfield 280, 3) := by decide +kernel
theorem d_L_stateOfGroup_56 : decode (xC k_L_stateOfGroup) 56 = .ok (.astore 6, 2) := by decide +kernel
theorem d_L_stateOfGroup_58 : decode (xC k_L_stateOfGroup) 58 = .ok (.goto (-36), 3) := by decide +kernel
theorem d_L_stateOfGroup_61 : decode (xC k_L_stateOfGroup) 61 = .ok (.iload 5, 2) := by decide +kernel
theorem d_L_stateOfGroup_63 : decode (xC k_L_stateOfGroup) 63 = .ok (.ireturn, 1) := by decide +kernel
theorem d_L_stateOfName_0 : decode (xC k_L_stateOfName) 0 = .ok (.aload_n 1, 1) := by decide +kernel
theorem d_L_stateOfName_1 : decode (xC k_L_stateOfName) 1 = .ok (.getfield 283, 3) := by decide +kernel
theorem d_L_stateOfName_4 : decode (xC k_L_stateOfName) 4 = .ok (.bipush 121, 2) := by decide +kernel
theorem d_L_stateOfName_6 : decode (xC k_L_stateOfName) 6 = .ok (.if_icmp .ne 20, 3) := by decide +kernel
theorem d_L_stateOfName_9 : decode (xC k_L_stateOfName) 9 = .ok (.aload_n 1, 1) := by decide +kernel
theorem d_L_stateOfName_10 : decode (xC k_L_stateOfName) 10 = .ok (.iload_n 3, 1) := by decide +kernel
theorem d_L_stateOfName_11 : decode (xC k_L_stateOfName) 11 = .ok (.bipush 24, 2) := by decide +kernel
theorem d_L_stateOfName_13 : decode (xC k_L_stateOfName) 13 = .ok (.idiv, 1) := by decide +kernel
theorem d_L_stateOfName_14 : decode (xC k_L_stateOfName) 14 = .ok (.aload_n 2, 1) := by decide +kernel
theorem d_L_stateOfName_15 : decode (xC k_L_stateOfName) 15 = .ok (.getfield 160, 3) := by decide +kernel
theorem d_L_stateOfName_18 : decode (xC k_L_stateOfName) 18 = .ok (.getfield 213, 3) := by decide +kernel
theorem d_L_stateOfName_21 : decode (xC k_L_stateOfName) 21 = .ok (.isub, 1) := by decide +kernel
theorem d_L_stateOfName_22 : decode (xC k_L_stateOfName) 22 = .ok (.invokevirtual 286, 3) := by decide +kernel
theorem d_L_stateOfName_25 : decode (xC k_L_stateOfName) 25 = .ok (.ireturn, 1) := by decide +kernel
theorem d_L_stateOfName_26 : decode (xC k_L_stateOfName) 26 = .ok (.aload_n 1, 1) := by decide +kernel
theorem d_L_stateOfName_27 : decode (xC k_L_stateOfName) 27 = .ok (.getfield 283, 3) := by decide +kernel
theorem d_L_stateOfName_30 : decode (xC k_L_stateOfName) 30 = .ok (.bipush 122, 2) := by decide +kernel
theorem d_L_stateOfName_32 : decode (xC k_L_stateOfName) 32 = .ok (.if_icmp .ne 20, 3) := by decide +kernel
theorem d_L_stateOfName_35 : decode (xC k_L_stateOfName) 35 = .ok (.aload_n 1, 1) := by decide +kernel
theorem d_L_stateOfName_36 : decode (xC k_L_stateOfName) 36 = .ok (.aload_n 2, 1) := by decide +kernel
theorem d_L_stateOfName_37 : decode (xC k_L_stateOfName) 37 = .ok (.getfield 153, 3) := by decide +kernel
theorem d_L_stateOfName_40 : decode (xC k_L_stateOfName) 40 = .ok (.ifCond .eq 7, 3) := by decide +kernel
theorem d_L_stateOfName_43 : decode (xC k_L_stateOfName) 43 = .ok (.iconst 1, 1) := by decide +kernel
theorem d_L_stateOfName_44 : decode (xC k_L_stateOfName) 44 = .ok (.goto 4, 3) := by decide +kernel
theorem d_L_stateOfName_47 : decode (xC k_L_stateOfName) 47 = .ok (.iconst 0, 1) := by decide +kernel
theorem d_L_stateOfName_48 : decode (xC k_L_stateOfName) 48 = .ok (.invokevirtual 286, 3) := by decide +kernel
theorem d_L_stateOfName_51 : decode (xC k_L_stateOfName) 51 = .ok (.ireturn, 1) := by decide +kernel
theorem d_L_stateOfName_52 : decode (xC k_L_stateOfName) 52 = .ok (.aload_n 0, 1) := by decide +kernel
theorem d_L_stateOfName_53 : decode (xC k_L_stateOfName) 53 = .ok (.aload_n 1, 1) := by decide +kernel
theorem d_L_stateOfName_54 : decode (xC k_L_stateOfName) 54 = .ok (.getfield 283, 3) := by decide +kernel
theorem d_L_stateOfName_57 : decode (xC k_L_stateOfName) 57 = .ok (.bipush 97, 2) := by decide +kernel
theorem d_L_stateOfName_59 : decode (xC k_L_stateOfName) 59 = .ok (.isub, 1) := by decide +kernel
theorem d_L_stateOfName_60 : decode (xC k_L_stateOfName) 60 = .ok (.invokevirtual 102, 3) := by decide +kernel
theorem d_L_stateOfName_63 : decode (xC k_L_stateOfName) 63 = .ok (.iload_n 3, 1) := by decide +kernel
theorem d_L_stateOfName_64 : decode (xC k_L_stateOfName) 64 = .ok (.invokevirtual 289, 3) := by decide +kernel
theorem d_L_stateOfName_67 : decode (xC k_L_stateOfName) 67 = .ok (.istore 4, 2) := by decide +kernel
theorem d_L_stateOfName_69 : decode (xC k_L_stateOfName) 69 = .ok (.iload 4, 2) := by decide +kernel
theorem d_L_stateOfName_71 : decode (xC k_L_stateOfName) 71 = .ok (.iconst (-1), 1) := by decide +kernel
theorem d_L_stateOfName_72 : decode (xC k_L_stateOfName) 72 = .ok (.if_icmp .ne 7, 3) := by decide +kernel
theorem d_L_stateOfName_75 : decode (xC k_L_stateOfName) 75 = .ok (.iconst 2, 1) := by decide +kernel
theorem d_L_stateOfName_76 : decode (xC k_L_stateOfName) 76 = .ok (.goto 9, 3) := by decide +kernel
theorem d_L_stateOfName_79 : decode (xC k_L_stateOfName) 79 = .ok (.aload_n 1, 1) := by decide +kernel
theorem d_L_stateOfName_80 : decode (xC k_L_stateOfName) 80 = .ok (.iload 4, 2) := by decide +kernel
theorem d_L_stateOfName_82 : decode (xC k_L_stateOfName) 82 = .ok (.invokevirtual 286, 3) := by decide +kernel
theorem d_L_stateOfName_85 : decode (xC k_L_stateOfName) 85 = .ok (.ireturn, 1) := by decide +kernel
theorem d_L_turnedRound_0 : decode (xC k_L_turnedRound) 0 = .ok (.iload_n 0, 1) := by decide +kernel
theorem d_L_turnedRound_1 : decode (xC k_L_turnedRound) 1 = .ok (.iconst 2, 1) := by decide +kernel
theorem d_L_turnedRound_2 : decode (xC k_L_turnedRound) 2 = .ok (.if_icmp .ne 5, 3) := by decide +kernel
theorem d_L_turnedRound_5 : decode (xC k_L_turnedRound) 5 = .ok (.iconst 2, 1) := by decide +kernel
theorem d_L_turnedRound_6 : decode (xC k_L_turnedRound) 6 = .ok (.ireturn, 1) := by decide +kernel
theorem d_L_turnedRound_7 : decode (xC k_L_turnedRound) 7 = .ok (.iload_n 0, 1) := by decide +kernel
theorem d_L_turnedRound_8 : decode (xC k_L_turnedRound) 8 = .ok (.iconst 1, 1) := by decide +kernel
theorem d_L_turnedRound_9 : decode (xC k_L_turnedRound) 9 = .ok (.if_icmp .ne 7, 3) := by decide +kernel
theorem d_L_turnedRound_12 : decode (xC k_L_turnedRound) 12 = .ok (.iconst 0, 1) := by decide +kernel
theorem d_L_turnedRound_13 : decode (xC k_L_turnedRound) 13 = .ok (.goto 4, 3) := by decide +kernel
theorem d_L_turnedRound_16 : decode (xC k_L_turnedRound) 16 = .ok (.iconst 1, 1) := by decide +kernel
theorem d_L_turnedRound_17 : decode (xC k_L_turnedRound) 17 = .ok (.ireturn, 1) := by decide +kernel
