theorem d_M_putNumber_0 : decode (xC k_M_putNumber) 0 = .ok (.iconst 1, 1) := by decide +kernel
theorem d_M_putNumber_1 : decode (xC k_M_putNumber) 1 = .ok (.istore_n 2, 1) := by decide +kernel
theorem d_M_putNumber_2 : decode (xC k_M_putNumber) 2 = .ok (.iload_n 1, 1) := by decide +kernel
theorem d_M_putNumber_3 : decode (xC k_M_putNumber) 3 = .ok (.iload_n 2, 1) := by decide +kernel
theorem d_M_putNumber_4 : decode (xC k_M_putNumber) 4 = .ok (.idiv, 1) := by decide +kernel
theorem d_M_putNumber_5 : decode (xC k_M_putNumber) 5 = .ok (.bipush 9, 2) := by decide +kernel
theorem d_M_putNumber_7 : decode (xC k_M_putNumber) 7 = .ok (.if_icmp .le 11, 3) := by decide +kernel
theorem d_M_putNumber_10 : decode (xC k_M_putNumber) 10 = .ok (.iload_n 2, 1) := by decide +kernel
theorem d_M_putNumber_11 : decode (xC k_M_putNumber) 11 = .ok (.bipush 10, 2) := by decide +kernel
theorem d_M_putNumber_13 : decode (xC k_M_putNumber) 13 = .ok (.imul, 1) := by decide +kernel
theorem d_M_putNumber_14 : decode (xC k_M_putNumber) 14 = .ok (.istore_n 2, 1) := by decide +kernel
theorem d_M_putNumber_15 : decode (xC k_M_putNumber) 15 = .ok (.goto (-13), 3) := by decide +kernel
theorem d_M_putNumber_18 : decode (xC k_M_putNumber) 18 = .ok (.iload_n 2, 1) := by decide +kernel
theorem d_M_putNumber_19 : decode (xC k_M_putNumber) 19 = .ok (.ifCond .le 24, 3) := by decide +kernel
theorem d_M_putNumber_22 : decode (xC k_M_putNumber) 22 = .ok (.aload_n 0, 1) := by decide +kernel
theorem d_M_putNumber_23 : decode (xC k_M_putNumber) 23 = .ok (.bipush 48, 2) := by decide +kernel
theorem d_M_putNumber_25 : decode (xC k_M_putNumber) 25 = .ok (.iload_n 1, 1) := by decide +kernel
theorem d_M_putNumber_26 : decode (xC k_M_putNumber) 26 = .ok (.iload_n 2, 1) := by decide +kernel
theorem d_M_putNumber_27 : decode (xC k_M_putNumber) 27 = .ok (.idiv, 1) := by decide +kernel
theorem d_M_putNumber_28 : decode (xC k_M_putNumber) 28 = .ok (.bipush 10, 2) := by decide +kernel
theorem d_M_putNumber_30 : decode (xC k_M_putNumber) 30 = .ok (.irem, 1) := by decide +kernel
theorem d_M_putNumber_31 : decode (xC k_M_putNumber) 31 = .ok (.iadd, 1) := by decide +kernel
theorem d_M_putNumber_32 : decode (xC k_M_putNumber) 32 = .ok (.invokevirtual 152, 3) := by decide +kernel
theorem d_M_putNumber_35 : decode (xC k_M_putNumber) 35 = .ok (.iload_n 2, 1) := by decide +kernel
theorem d_M_putNumber_36 : decode (xC k_M_putNumber) 36 = .ok (.bipush 10, 2) := by decide +kernel
theorem d_M_putNumber_38 : decode (xC k_M_putNumber) 38 = .ok (.idiv, 1) := by decide +kernel
theorem d_M_putNumber_39 : decode (xC k_M_putNumber) 39 = .ok (.istore_n 2, 1) := by decide +kernel
theorem d_M_putNumber_40 : decode (xC k_M_putNumber) 40 = .ok (.goto (-22), 3) := by decide +kernel
theorem d_M_putNumber_43 : decode (xC k_M_putNumber) 43 = .ok (.return_, 1) := by decide +kernel
theorem d_M_children_0 : decode (xC k_M_children) 0 = .ok (.iconst 0, 1) := by decide +kernel
theorem d_M_children_1 : decode (xC k_M_children) 1 = .ok (.istore_n 3, 1) := by decide +kernel
theorem d_M_children_2 : decode (xC k_M_children) 2 = .ok (.iload_n 2, 1) := by decide +kernel
theorem d_M_children_3 : decode (xC k_M_children) 3 = .ok (.iconst 1, 1) := by decide +kernel
theorem d_M_children_4 : decode (xC k_M_children) 4 = .ok (.iadd, 1) := by decide +kernel
theorem d_M_children_5 : decode (xC k_M_children) 5 = .ok (.istore 4, 2) := by decide +kernel
theorem d_M_children_7 : decode (xC k_M_children) 7 = .ok (.iload 4, 2) := by decide +kernel
theorem d_M_children_9 : decode (xC k_M_children) 9 = .ok (.aload_n 0, 1) := by decide +kernel
theorem d_M_children_10 : decode (xC k_M_children) 10 = .ok (.getfield 19, 3) := by decide +kernel
theorem d_M_children_13 : decode (xC k_M_children) 13 = .ok (.iload_n 1, 1) := by decide +kernel
theorem d_M_children_14 : decode (xC k_M_children) 14 = .ok (.iaload, 1) := by decide +kernel
theorem d_M_children_15 : decode (xC k_M_children) 15 = .ok (.if_icmp .ge 34, 3) := by decide +kernel
theorem d_M_children_18 : decode (xC k_M_children) 18 = .ok (.aload_n 0, 1) := by decide +kernel
theorem d_M_children_19 : decode (xC k_M_children) 19 = .ok (.getfield 25, 3) := by decide +kernel
theorem d_M_children_22 : decode (xC k_M_children) 22 = .ok (.sipush 160, 3) := by decide +kernel
theorem d_M_children_25 : decode (xC k_M_children) 25 = .ok (.iload_n 1, 1) := by decide +kernel
theorem d_M_children_26 : decode (xC k_M_children) 26 = .ok (.imul, 1) := by decide +kernel
theorem d_M_children_27 : decode (xC k_M_children) 27 = .ok (.iload 4, 2) := by decide +kernel
theorem d_M_children_29 : decode (xC k_M_children) 29 = .ok (.iadd, 1) := by decide +kernel
theorem d_M_children_30 : decode (xC k_M_children) 30 = .ok (.iaload, 1) := by decide +kernel
theorem d_M_children_31 : decode (xC k_M_children) 31 = .ok (.iload_n 2, 1) := by decide +kernel
theorem d_M_children_32 : decode (xC k_M_children) 32 = .ok (.if_icmp .ne 9, 3) := by decide +kernel
theorem d_M_children_35 : decode (xC k_M_children) 35 = .ok (.iload_n 3, 1) := by decide +kernel
theorem d_M_children_36 : decode (xC k_M_children) 36 = .ok (.iconst 1, 1) := by decide +kernel
theorem d_M_children_37 : decode (xC k_M_children) 37 = .ok (.iadd, 1) := by decide +kernel
theorem d_M_children_38 : decode (xC k_M_children) 38 = .ok (.goto 4, 3) := by decide +kernel
theorem d_M_children_41 : decode (xC k_M_children) 41 = .ok (.iload_n 3, 1) := by decide +kernel
theorem d_M_children_42 : decode (xC k_M_children) 42 = .ok (.istore_n 3, 1) := by decide +kernel
theorem d_M_children_43 : decode (xC k_M_children) 43 = .ok (.iinc 4 1, 3) := by decide +kernel
theorem d_M_children_46 : decode (xC k_M_children) 46 = .ok (.goto (-39), 3) := by decide +kernel
theorem d_M_children_49 : decode (xC k_M_children) 49 = .ok (.iload_n 3, 1) := by decide +kernel
theorem d_M_children_50 : decode (xC k_M_children) 50 = .ok (.ireturn, 1) := by decide +kernel
theorem d_M_unfold_0 : decode (xC k_M_unfold) 0 = .ok (.aload_n 0, 1) := by decide +kernel
theorem d_M_unfold_1 : decode (xC k_M_unfold) 1 = .ok (.iload_n 1, 1) := by decide +kernel
theorem d_M_unfold_2 : decode (xC k_M_unfold) 2 = .ok (.iload_n 2, 1) := by decide +kernel
theorem d_M_unfold_3 : decode (xC k_M_unfold) 3 = .ok (.invokevirtual 155, 3) := by decide +kernel
theorem d_M_unfold_6 : decode (xC k_M_unfold) 6 = .ok (.istore_n 3, 1) := by decide +kernel
theorem d_M_unfold_7 : decode (xC k_M_unfold) 7 = .ok (.iload_n 3, 1) := by decide +kernel
theorem d_M_unfold_8 : decode (xC k_M_unfold) 8 = .ok (.istore 4, 2) := by decide +kernel
theorem d_M_unfold_10 : decode (xC k_M_unfold) 10 = .ok (.iload_n 3, 1) := by decide +kernel
theorem d_M_unfold_11 : decode (xC k_M_unfold) 11 = .ok (.iconst 1, 1) := by decide +kernel
theorem d_M_unfold_12 : decode (xC k_M_unfold) 12 = .ok (.if_icmp .le 24, 3) := by decide +kernel
theorem d_M_unfold_15 : decode (xC k_M_unfold) 15 = .ok (.aload_n 0, 1) := by decide +kernel
theorem d_M_unfold_16 : decode (xC k_M_unfold) 16 = .ok (.getfield 43, 3) := by decide +kernel
theorem d_M_unfold_19 : decode (xC k_M_unfold) 19 = .ok (.aload_n 0, 1) := by decide +kernel
theorem d_M_unfold_20 : decode (xC k_M_unfold) 20 = .ok (.getfield 158, 3) := by decide +kernel
theorem d_M_unfold_23 : decode (xC k_M_unfold) 23 = .ok (.bipush (-41), 2) := by decide +kernel
theorem d_M_unfold_25 : decode (xC k_M_unfold) 25 = .ok (.iastore, 1) := by decide +kernel
theorem d_M_unfold_26 : decode (xC k_M_unfold) 26 = .ok (.aload_n 0, 1) := by decide +kernel
theorem d_M_unfold_27 : decode (xC k_M_unfold) 27 = .ok (.dup, 1) := by decide +kernel
theorem d_M_unfold_28 : decode (xC k_M_unfold) 28 = .ok (.getfield 158, 3) := by decide +kernel
theorem d_M_unfold_31 : decode (xC k_M_unfold) 31 = .ok (.iconst 1, 1) := by decide +kernel
theorem d_M_unfold_32 : decode (xC k_M_unfold) 32 = .ok (.iadd, 1) := by decide +kernel
theorem d_M_unfold_33 : decode (xC k_M_unfold) 33 = .ok (.putfield 158, 3) := by decide +kernel
theorem d_M_unfold_36 : decode (xC k_M_unfold) 36 = .ok (.aload_n 0, 1) := by decide +kernel
theorem d_M_unfold_37 : decode (xC k_M_unfold) 37 = .ok (.getfield 19, 3) := by decide +kernel
theorem d_M_unfold_40 : decode (xC k_M_unfold) 40 = .ok (.iload_n 1, 1) := by decide +kernel
theorem d_M_unfold_41 : decode (xC k_M_unfold) 41 = .ok (.iaload, 1) := by decide +kernel
theorem d_M_unfold_42 : decode (xC k_M_unfold) 42 = .ok (.iconst 1, 1) := by decide +kernel
theorem d_M_unfold_43 : decode (xC k_M_unfold) 43 = .ok (.isub, 1) := by decide +kernel
theorem d_M_unfold_44 : decode (xC k_M_unfold) 44 = .ok (.istore 5, 2) := by decide +kernel
theorem d_M_unfold_46 : decode (xC k_M_unfold) 46 = .ok (.iload 5, 2) := by decide +kernel
theorem d_M_unfold_48 : decode (xC k_M_unfold) 48 = .ok (.iload_n 2, 1) := by decide +kernel
theorem d_M_unfold_49 : decode (xC k_M_unfold) 49 = .ok (.if_icmp .le 97, 3) := by decide +kernel
theorem d_M_unfold_52 : decode (xC k_M_unfold) 52 = .ok (.aload_n 0, 1) := by decide +kernel
theorem d_M_unfold_53 : decode (xC k_M_unfold) 53 = .ok (.getfield 25, 3) := by decide +kernel
theorem d_M_unfold_56 : decode (xC k_M_unfold) 56 = .ok (.sipush 160, 3) := by decide +kernel
theorem d_M_unfold_59 : decode (xC k_M_unfold) 59 = .ok (.iload_n 1, 1) := by decide +kernel
theorem d_M_unfold_60 : decode (xC k_M_unfold) 60 = .ok (.imul, 1) := by decide +kernel
theorem d_M_unfold_61 : decode (xC k_M_unfold) 61 = .ok (.iload 5, 2) := by decide +kernel
theorem d_M_unfold_63 : decode (xC k_M_unfold) 63 = .ok (.iadd, 1) := by decide +kernel
theorem d_M_unfold_64 : decode (xC k_M_unfold) 64 = .ok (.iaload, 1) := by decide +kernel
theorem d_M_unfold_65 : decode (xC k_M_unfold) 65 = .ok (.iload_n 2, 1) := by decide +kernel
theorem d_M_unfold_66 : decode (xC k_M_unfold) 66 = .ok (.if_icmp .ne 74, 3) := by decide +kernel
theorem d_M_unfold_69 : decode (xC k_M_unfold) 69 = .ok (.aload_n 0, 1) := by decide +kernel
theorem d_M_unfold_70 : decode (xC k_M_unfold) 70 = .ok (.getfield 43, 3) := by decide +kernel
theorem d_M_unfold_73 : decode (xC k_M_unfold) 73 = .ok (.aload_n 0, 1) := by decide +kernel
theorem d_M_unfold_74 : decode (xC k_M_unfold) 74 = .ok (.getfield 158, 3) := by decide +kernel
theorem d_M_unfold_77 : decode (xC k_M_unfold) 77 = .ok (.iload 5, 2) := by decide +kernel
theorem d_M_unfold_79 : decode (xC k_M_unfold) 79 = .ok (.iastore, 1) := by decide +kernel
theorem d_M_unfold_80 : decode (xC k_M_unfold) 80 = .ok (.aload_n 0, 1) := by decide +kernel
theorem d_M_unfold_81 : decode (xC k_M_unfold) 81 = .ok (.dup, 1) := by decide +kernel
theorem d_M_unfold_82 : decode (xC k_M_unfold) 82 = .ok (.getfield 158, 3) := by decide +kernel
theorem d_M_unfold_85 : decode (xC k_M_unfold) 85 = .ok (.iconst 1, 1) := by decide +kernel
theorem d_M_unfold_86 : decode (xC k_M_unfold) 86 = .ok (.iadd, 1) := by decide +kernel
theorem d_M_unfold_87 : decode (xC k_M_unfold) 87 = .ok (.putfield 158, 3) := by decide +kernel
theorem d_M_unfold_90 : decode (xC k_M_unfold) 90 = .ok (.iinc 4 (-1), 3) := by decide +kernel
theorem d_M_unfold_93 : decode (xC k_M_unfold) 93 = .ok (.iload 4, 2) := by decide +kernel
theorem d_M_unfold_95 : decode (xC k_M_unfold) 95 = .ok (.ifCond .le 45, 3) := by decide +kernel
theorem d_M_unfold_98 : decode (xC k_M_unfold) 98 = .ok (.aload_n 0, 1) := by decide +kernel
theorem d_M_unfold_99 : decode (xC k_M_unfold) 99 = .ok (.getfield 43, 3) := by decide +kernel
theorem d_M_unfold_102 : decode (xC k_M_unfold) 102 = .ok (.aload_n 0, 1) := by decide +kernel
theorem d_M_unfold_103 : decode (xC k_M_unfold) 103 = .ok (.getfield 158, 3) := by decide +kernel
theorem d_M_unfold_106 : decode (xC k_M_unfold) 106 = .ok (.aload_n 0, 1) := by decide +kernel
theorem d_M_unfold_107 : decode (xC k_M_unfold) 107 = .ok (.getfield 22, 3) := by decide +kernel
theorem d_M_unfold_110 : decode (xC k_M_unfold) 110 = .ok (.sipush 160, 3) := by decide +kernel
theorem d_M_unfold_113 : decode (xC k_M_unfold) 113 = .ok (.iload_n 1, 1) := by decide +kernel
theorem d_M_unfold_114 : decode (xC k_M_unfold) 114 = .ok (.imul, 1) := by decide +kernel
theorem d_M_unfold_115 : decode (xC k_M_unfold) 115 = .ok (.iload_n 2, 1) := by decide +kernel
theorem d_M_unfold_116 : decode (xC k_M_unfold) 116 = .ok (.iadd, 1) := by decide +kernel
theorem d_M_unfold_117 : decode (xC k_M_unfold) 117 = .ok (.iaload, 1) := by decide +kernel
theorem d_M_unfold_118 : decode (xC k_M_unfold) 118 = .ok (.iconst 2, 1) := by decide +kernel
theorem d_M_unfold_119 : decode (xC k_M_unfold) 119 = .ok (.if_icmp .ne 8, 3) := by decide +kernel
theorem d_M_unfold_122 : decode (xC k_M_unfold) 122 = .ok (.bipush (-124), 2) := by decide +kernel
theorem d_M_unfold_124 : decode (xC k_M_unfold) 124 = .ok (.goto 5, 3) := by decide +kernel
theorem d_M_unfold_127 : decode (xC k_M_unfold) 127 = .ok (.bipush (-38), 2) := by decide +kernel
theorem d_M_unfold_129 : decode (xC k_M_unfold) 129 = .ok (.iastore, 1) := by decide +kernel
theorem d_M_unfold_130 : decode (xC k_M_unfold) 130 = .ok (.aload_n 0, 1) := by decide +kernel
theorem d_M_unfold_131 : decode (xC k_M_unfold) 131 = .ok (.dup, 1) := by decide +kernel
theorem d_M_unfold_132 : decode (xC k_M_unfold) 132 = .ok (.getfield 158, 3) := by decide +kernel
theorem d_M_unfold_135 : decode (xC k_M_unfold) 135 = .ok (.iconst 1, 1) := by decide +kernel
theorem d_M_unfold_136 : decode (xC k_M_unfold) 136 = .ok (.iadd, 1) := by decide +kernel
theorem d_M_unfold_137 : decode (xC k_M_unfold) 137 = .ok (.putfield 158, 3) := by decide +kernel
theorem d_M_unfold_140 : decode (xC k_M_unfold) 140 = .ok (.iinc 5 (-1), 3) := by decide +kernel
theorem d_M_unfold_143 : decode (xC k_M_unfold) 143 = .ok (.goto (-97), 3) := by decide +kernel
theorem d_M_unfold_146 : decode (xC k_M_unfold) 146 = .ok (.iload_n 3, 1) := by decide +kernel
theorem d_M_unfold_147 : decode (xC k_M_unfold) 147 = .ok (.iconst 1, 1) := by decide +kernel
theorem d_M_unfold_148 : decode (xC k_M_unfold) 148 = .ok (.if_icmp .le 9, 3) := by decide +kernel
theorem d_M_unfold_151 : decode (xC k_M_unfold) 151 = .ok (.aload_n 0, 1) := by decide +kernel
theorem d_M_unfold_152 : decode (xC k_M_unfold) 152 = .ok (.bipush 40, 2) := by decide +kernel
theorem d_M_unfold_154 : decode (xC k_M_unfold) 154 = .ok (.invokevirtual 152, 3) := by decide +kernel
theorem d_M_unfold_157 : decode (xC k_M_unfold) 157 = .ok (.return_, 1) := by decide +kernel
theorem d_M_write_0 : decode (xC k_M_write) 0 = .ok (.aload_n 0, 1) := by decide +kernel
theorem d_M_write_1 : decode (xC k_M_write) 1 = .ok (.iconst 0, 1) := by decide +kernel
theorem d_M_write_2 : decode (xC k_M_write) 2 = .ok (.putfield 149, 3) := by decide +kernel
theorem d_M_write_5 : decode (xC k_M_write) 5 = .ok (.iconst 0, 1) := by decide +kernel
theorem d_M_write_6 : decode (xC k_M_write) 6 = .ok (.istore_n 2, 1) := by decide +kernel
theorem d_M_write_7 : decode (xC k_M_write) 7 = .ok (.iload_n 2, 1) := by decide +kernel
theorem d_M_write_8 : decode (xC k_M_write) 8 = .ok (.aload_n 0, 1) := by decide +kernel
theorem d_M_write_9 : decode (xC k_M_write) 9 = .ok (.getfield 13, 3) := by decide +kernel
theorem d_M_write_12 : decode (xC k_M_write) 12 = .ok (.iload_n 1, 1) := by decide +kernel
theorem d_M_write_13 : decode (xC k_M_write) 13 = .ok (.iaload, 1) := by decide +kernel
theorem d_M_write_14 : decode (xC k_M_write) 14 = .ok (.if_icmp .ge 181, 3) := by decide +kernel
theorem d_M_write_17 : decode (xC k_M_write) 17 = .ok (.aload_n 0, 1) := by decide +kernel
theorem d_M_write_18 : decode (xC k_M_write) 18 = .ok (.iconst 1, 1) := by decide +kernel
theorem d_M_write_19 : decode (xC k_M_write) 19 = .ok (.putfield 158, 3) := by decide +kernel
theorem d_M_write_22 : decode (xC k_M_write) 22 = .ok (.aload_n 0, 1) := by decide +kernel
theorem d_M_write_23 : decode (xC k_M_write) 23 = .ok (.getfield 43, 3) := by decide +kernel
theorem d_M_write_26 : decode (xC k_M_write) 26 = .ok (.iconst 0, 1) := by decide +kernel
theorem d_M_write_27 : decode (xC k_M_write) 27 = .ok (.aload_n 0, 1) := by decide +kernel
theorem d_M_write_28 : decode (xC k_M_write) 28 = .ok (.getfield 16, 3) := by decide +kernel
theorem d_M_write_31 : decode (xC k_M_write) 31 = .ok (.bipush 6, 2) := by decide +kernel
theorem d_M_write_33 : decode (xC k_M_write) 33 = .ok (.iload_n 1, 1) := by decide +kernel
theorem d_M_write_34 : decode (xC k_M_write) 34 = .ok (.imul, 1) := by decide +kernel
theorem d_M_write_35 : decode (xC k_M_write) 35 = .ok (.iload_n 2, 1) := by decide +kernel
theorem d_M_write_36 : decode (xC k_M_write) 36 = .ok (.iadd, 1) := by decide +kernel
theorem d_M_write_37 : decode (xC k_M_write) 37 = .ok (.iaload, 1) := by decide +kernel
theorem d_M_write_38 : decode (xC k_M_write) 38 = .ok (.iastore, 1) := by decide +kernel
theorem d_M_write_39 : decode (xC k_M_write) 39 = .ok (.aload_n 0, 1) := by decide +kernel
theorem d_M_write_40 : decode (xC k_M_write) 40 = .ok (.getfield 158, 3) := by decide +kernel
theorem d_M_write_43 : decode (xC k_M_write) 43 = .ok (.ifCond .le 140, 3) := by decide +kernel
theorem d_M_write_46 : decode (xC k_M_write) 46 = .ok (.aload_n 0, 1) := by decide +kernel
theorem d_M_write_47 : decode (xC k_M_write) 47 = .ok (.dup, 1) := by decide +kernel
theorem d_M_write_48 : decode (xC k_M_write) 48 = .ok (.getfield 158, 3) := by decide +kernel
theorem d_M_write_51 : decode (xC k_M_write) 51 = .ok (.iconst 1, 1) := by decide +kernel
theorem d_M_write_52 : decode (xC k_M_write) 52 = .ok (.isub, 1) := by decide +kernel
theorem d_M_write_53 : decode (xC k_M_write) 53 = .ok (.putfield 158, 3) := by decide +kernel
theorem d_M_write_56 : decode (xC k_M_write) 56 = .ok (.aload_n 0, 1) := by decide +kernel
theorem d_M_write_57 : decode (xC k_M_write) 57 = .ok (.getfield 43, 3) := by decide +kernel
theorem d_M_write_60 : decode (xC k_M_write) 60 = .ok (.aload_n 0, 1) := by decide +kernel
theorem d_M_write_61 : decode (xC k_M_write) 61 = .ok (.getfield 158, 3) := by decide +kernel
theorem d_M_write_64 : decode (xC k_M_write) 64 = .ok (.iaload, 1) := by decide +kernel
theorem d_M_write_65 : decode (xC k_M_write) 65 = .ok (.istore_n 3, 1) := by decide +kernel
theorem d_M_write_66 : decode (xC k_M_write) 66 = .ok (.sipush 160, 3) := by decide +kernel
theorem d_M_write_69 : decode (xC k_M_write) 69 = .ok (.iload_n 1, 1) := by decide +kernel
theorem d_M_write_70 : decode (xC k_M_write) 70 = .ok (.imul, 1) := by decide +kernel
theorem d_M_write_71 : decode (xC k_M_write) 71 = .ok (.iload_n 3, 1) := by decide +kernel
theorem d_M_write_72 : decode (xC k_M_write) 72 = .ok (.ifCond .ge 7, 3) := by decide +kernel
theorem d_M_write_75 : decode (xC k_M_write) 75 = .ok (.iconst 0, 1) := by decide +kernel
theorem d_M_write_76 : decode (xC k_M_write) 76 = .ok (.goto 4, 3) := by decide +kernel
theorem d_M_write_79 : decode (xC k_M_write) 79 = .ok (.iload_n 3, 1) := by decide +kernel
theorem d_M_write_80 : decode (xC k_M_write) 80 = .ok (.iadd, 1) := by decide +kernel
theorem d_M_write_81 : decode (xC k_M_write) 81 = .ok (.istore 4, 2) := by decide +kernel
theorem d_M_write_83 : decode (xC k_M_write) 83 = .ok (.iconst 0, 1) := by decide +kernel
theorem d_M_write_84 : decode (xC k_M_write) 84 = .ok (.istore 5, 2) := by decide +kernel
theorem d_M_write_86 : decode (xC k_M_write) 86 = .ok (.iload_n 3, 1) := by decide +kernel
theorem d_M_write_87 : decode (xC k_M_write) 87 = .ok (.ifCond .lt 27, 3) := by decide +kernel
theorem d_M_write_90 : decode (xC k_M_write) 90 = .ok (.iload 5, 2) := by decide +kernel
theorem d_M_write_92 : decode (xC k_M_write) 92 = .ok (.aload_n 0, 1) := by decide +kernel
theorem d_M_write_93 : decode (xC k_M_write) 93 = .ok (.getfield 28, 3) := by decide +kernel
theorem d_M_write_96 : decode (xC k_M_write) 96 = .ok (.iload 4, 2) := by decide +kernel
theorem d_M_write_98 : decode (xC k_M_write) 98 = .ok (.iaload, 1) := by decide +kernel
theorem d_M_write_99 : decode (xC k_M_write) 99 = .ok (.if_icmp .ge 15, 3) := by decide +kernel
theorem d_M_write_102 : decode (xC k_M_write) 102 = .ok (.aload_n 0, 1) := by decide +kernel
theorem d_M_write_103 : decode (xC k_M_write) 103 = .ok (.bipush 33, 2) := by decide +kernel
theorem d_M_write_105 : decode (xC k_M_write) 105 = .ok (.invokevirtual 152, 3) := by decide +kernel
theorem d_M_write_108 : decode (xC k_M_write) 108 = .ok (.iinc 5 1, 3) := by decide +kernel
theorem d_M_write_111 : decode (xC k_M_write) 111 = .ok (.goto (-25), 3) := by decide +kernel
theorem d_M_write_114 : decode (xC k_M_write) 114 = .ok (.iload_n 3, 1) := by decide +kernel
theorem d_M_write_115 : decode (xC k_M_write) 115 = .ok (.ifCond .ge 13, 3) := by decide +kernel
theorem d_M_write_118 : decode (xC k_M_write) 118 = .ok (.aload_n 0, 1) := by decide +kernel
theorem d_M_write_119 : decode (xC k_M_write) 119 = .ok (.iconst 0, 1) := by decide +kernel
theorem d_M_write_120 : decode (xC k_M_write) 120 = .ok (.iload_n 3, 1) := by decide +kernel
theorem d_M_write_121 : decode (xC k_M_write) 121 = .ok (.isub, 1) := by decide +kernel
theorem d_M_write_122 : decode (xC k_M_write) 122 = .ok (.invokevirtual 152, 3) := by decide +kernel
theorem d_M_write_125 : decode (xC k_M_write) 125 = .ok (.goto 55, 3) := by decide +kernel
theorem d_M_write_128 : decode (xC k_M_write) 128 = .ok (.aload_n 0, 1) := by decide +kernel
theorem d_M_write_129 : decode (xC k_M_write) 129 = .ok (.getfield 22, 3) := by decide +kernel
theorem d_M_write_132 : decode (xC k_M_write) 132 = .ok (.iload 4, 2) := by decide +kernel
theorem d_M_write_134 : decode (xC k_M_write) 134 = .ok (.iaload, 1) := by decide +kernel
theorem d_M_write_135 : decode (xC k_M_write) 135 = .ok (.ifCond .le 12, 3) := by decide +kernel
theorem d_M_write_138 : decode (xC k_M_write) 138 = .ok (.aload_n 0, 1) := by decide +kernel
theorem d_M_write_139 : decode (xC k_M_write) 139 = .ok (.iload_n 1, 1) := by decide +kernel
theorem d_M_write_140 : decode (xC k_M_write) 140 = .ok (.iload_n 3, 1) := by decide +kernel
theorem d_M_write_141 : decode (xC k_M_write) 141 = .ok (.invokevirtual 161, 3) := by decide +kernel
theorem d_M_write_144 : decode (xC k_M_write) 144 = .ok (.goto 36, 3) := by decide +kernel
theorem d_M_write_147 : decode (xC k_M_write) 147 = .ok (.aload_n 0, 1) := by decide +kernel
theorem d_M_write_148 : decode (xC k_M_write) 148 = .ok (.aload_n 0, 1) := by decide +kernel
theorem d_M_write_149 : decode (xC k_M_write) 149 = .ok (.getfield 31, 3) := by decide +kernel
theorem d_M_write_152 : decode (xC k_M_write) 152 = .ok (.iload 4, 2) := by decide +kernel
theorem d_M_write_154 : decode (xC k_M_write) 154 = .ok (.iaload, 1) := by decide +kernel
theorem d_M_write_155 : decode (xC k_M_write) 155 = .ok (.invokevirtual 152, 3) := by decide +kernel
theorem d_M_write_158 : decode (xC k_M_write) 158 = .ok (.aload_n 0, 1) := by decide +kernel
theorem d_M_write_159 : decode (xC k_M_write) 159 = .ok (.aload_n 0, 1) := by decide +kernel
theorem d_M_write_160 : decode (xC k_M_write) 160 = .ok (.getfield 34, 3) := by decide +kernel
theorem d_M_write_163 : decode (xC k_M_write) 163 = .ok (.iload 4, 2) := by decide +kernel
theorem d_M_write_165 : decode (xC k_M_write) 165 = .ok (.iaload, 1) := by decide +kernel
theorem d_M_write_166 : decode (xC k_M_write) 166 = .ok (.invokevirtual 152, 3) := by decide +kernel
theorem d_M_write_169 : decode (xC k_M_write) 169 = .ok (.aload_n 0, 1) := by decide +kernel
theorem d_M_write_170 : decode (xC k_M_write) 170 = .ok (.aload_n 0, 1) := by decide +kernel
theorem d_M_write_171 : decode (xC k_M_write) 171 = .ok (.getfield 37, 3) := by decide +kernel
theorem d_M_write_174 : decode (xC k_M_write) 174 = .ok (.iload 4, 2) := by decide +kernel
theorem d_M_write_176 : decode (xC k_M_write) 176 = .ok (.iaload, 1) := by decide +kernel
theorem d_M_write_177 : decode (xC k_M_write) 177 = .ok (.invokevirtual 165, 3) := by decide +kernel
theorem d_M_write_180 : decode (xC k_M_write) 180 = .ok (.goto (-141), 3) := by decide +kernel
theorem d_M_write_183 : decode (xC k_M_write) 183 = .ok (.aload_n 0, 1) := by decide +kernel
theorem d_M_write_184 : decode (xC k_M_write) 184 = .ok (.bipush 59, 2) := by decide +kernel
theorem d_M_write_186 : decode (xC k_M_write) 186 = .ok (.invokevirtual 152, 3) := by decide +kernel
theorem d_M_write_189 : decode (xC k_M_write) 189 = .ok (.iinc 2 1, 3) := by decide +kernel
theorem d_M_write_192 : decode (xC k_M_write) 192 = .ok (.goto (-185), 3) := by decide +kernel
theorem d_M_write_195 : decode (xC k_M_write) 195 = .ok (.return_, 1) := by decide +kernel
theorem d_M_written_0 : decode (xC k_M_written) 0 = .ok (.aload_n 0, 1) := by decide +kernel
theorem d_M_written_1 : decode (xC k_M_written) 1 = .ok (.iload_n 1, 1) := by decide +kernel
theorem d_M_written_2 : decode (xC k_M_written) 2 = .ok (.invokevirtual 146, 3) := by decide +kernel
theorem d_M_written_5 : decode (xC k_M_written) 5 = .ok (.ifCond .eq 12, 3) := by decide +kernel
theorem d_M_written_8 : decode (xC k_M_written) 8 = .ok (.iload_n 2, 1) := by decide +kernel
theorem d_M_written_9 : decode (xC k_M_written) 9 = .ok (.iconst (-1), 1) := by decide +kernel
theorem d_M_written_10 : decode (xC k_M_written) 10 = .ok (.if_icmp .lt 7, 3) := by decide +kernel
theorem d_M_written_13 : decode (xC k_M_written) 13 = .ok (.iconst 1, 1) := by decide +kernel
theorem d_M_written_14 : decode (xC k_M_written) 14 = .ok (.goto 4, 3) := by decide +kernel
theorem d_M_written_17 : decode (xC k_M_written) 17 = .ok (.iconst 0, 1) := by decide +kernel
theorem d_M_written_18 : decode (xC k_M_written) 18 = .ok (.istore_n 3, 1) := by decide +kernel
theorem d_M_written_19 : decode (xC k_M_written) 19 = .ok (.iload_n 3, 1) := by decide +kernel
theorem d_M_written_20 : decode (xC k_M_written) 20 = .ok (.ifCond .eq 8, 3) := by decide +kernel
theorem d_M_written_23 : decode (xC k_M_written) 23 = .ok (.aload_n 0, 1) := by decide +kernel
theorem d_M_written_24 : decode (xC k_M_written) 24 = .ok (.iload_n 1, 1) := by decide +kernel
theorem d_M_written_25 : decode (xC k_M_written) 25 = .ok (.invokevirtual 168, 3) := by decide +kernel
theorem d_M_written_28 : decode (xC k_M_written) 28 = .ok (.aload_n 0, 1) := by decide +kernel
theorem d_M_written_29 : decode (xC k_M_written) 29 = .ok (.iload_n 3, 1) := by decide +kernel
theorem d_M_written_30 : decode (xC k_M_written) 30 = .ok (.ifCond .eq 15, 3) := by decide +kernel
theorem d_M_written_33 : decode (xC k_M_written) 33 = .ok (.iload_n 2, 1) := by decide +kernel
theorem d_M_written_34 : decode (xC k_M_written) 34 = .ok (.aload_n 0, 1) := by decide +kernel
theorem d_M_written_35 : decode (xC k_M_written) 35 = .ok (.getfield 149, 3) := by decide +kernel
theorem d_M_written_38 : decode (xC k_M_written) 38 = .ok (.if_icmp .ge 7, 3) := by decide +kernel
theorem d_M_written_41 : decode (xC k_M_written) 41 = .ok (.iconst 1, 1) := by decide +kernel
theorem d_M_written_42 : decode (xC k_M_written) 42 = .ok (.goto 4, 3) := by decide +kernel
theorem d_M_written_45 : decode (xC k_M_written) 45 = .ok (.iconst 0, 1) := by decide +kernel
theorem d_M_written_46 : decode (xC k_M_written) 46 = .ok (.iconst 1, 1) := by decide +kernel
theorem d_M_written_47 : decode (xC k_M_written) 47 = .ok (.iconst 1, 1) := by decide +kernel
theorem d_M_written_48 : decode (xC k_M_written) 48 = .ok (.invokevirtual 116, 3) := by decide +kernel
theorem d_M_written_51 : decode (xC k_M_written) 51 = .ok (.ifCond .ne 5, 3) := by decide +kernel
theorem d_M_written_54 : decode (xC k_M_written) 54 = .ok (.iconst 0, 1) := by decide +kernel
theorem d_M_written_55 : decode (xC k_M_written) 55 = .ok (.ireturn, 1) := by decide +kernel
theorem d_M_written_56 : decode (xC k_M_written) 56 = .ok (.iload_n 2, 1) := by decide +kernel
theorem d_M_written_57 : decode (xC k_M_written) 57 = .ok (.iconst (-1), 1) := by decide +kernel
theorem d_M_written_58 : decode (xC k_M_written) 58 = .ok (.if_icmp .ne 10, 3) := by decide +kernel
theorem d_M_written_61 : decode (xC k_M_written) 61 = .ok (.aload_n 0, 1) := by decide +kernel
theorem d_M_written_62 : decode (xC k_M_written) 62 = .ok (.getfield 149, 3) := by decide +kernel
theorem d_M_written_65 : decode (xC k_M_written) 65 = .ok (.goto 9, 3) := by decide +kernel
theorem d_M_written_68 : decode (xC k_M_written) 68 = .ok (.aload_n 0, 1) := by decide +kernel
theorem d_M_written_69 : decode (xC k_M_written) 69 = .ok (.getfield 46, 3) := by decide +kernel
theorem d_M_written_72 : decode (xC k_M_written) 72 = .ok (.iload_n 2, 1) := by decide +kernel
theorem d_M_written_73 : decode (xC k_M_written) 73 = .ok (.iaload, 1) := by decide +kernel
theorem d_M_written_74 : decode (xC k_M_written) 74 = .ok (.ireturn, 1) := by decide +kernel
theorem d_M_input_0 : decode (xC k_M_input) 0 = .ok (.iload_n 1, 1) := by decide +kernel
theorem d_M_input_1 : decode (xC k_M_input) 1 = .ok (.ifCond .lt 13, 3) := by decide +kernel
theorem d_M_input_4 : decode (xC k_M_input) 4 = .ok (.iload_n 1, 1) := by decide +kernel
theorem d_M_input_5 : decode (xC k_M_input) 5 = .ok (.bipush 8, 2) := by decide +kernel
theorem d_M_input_7 : decode (xC k_M_input) 7 = .ok (.if_icmp .ge 7, 3) := by decide +kernel
theorem d_M_input_10 : decode (xC k_M_input) 10 = .ok (.iconst 1, 1) := by decide +kernel
theorem d_M_input_11 : decode (xC k_M_input) 11 = .ok (.goto 4, 3) := by decide +kernel
theorem d_M_input_14 : decode (xC k_M_input) 14 = .ok (.iconst 0, 1) := by decide +kernel
theorem d_M_input_15 : decode (xC k_M_input) 15 = .ok (.istore 4, 2) := by decide +kernel
theorem d_M_input_17 : decode (xC k_M_input) 17 = .ok (.iload 4, 2) := by decide +kernel
theorem d_M_input_19 : decode (xC k_M_input) 19 = .ok (.ifCond .eq 12, 3) := by decide +kernel
theorem d_M_input_22 : decode (xC k_M_input) 22 = .ok (.aload_n 0, 1) := by decide +kernel
theorem d_M_input_23 : decode (xC k_M_input) 23 = .ok (.getfield 49, 3) := by decide +kernel
theorem d_M_input_26 : decode (xC k_M_input) 26 = .ok (.iload_n 1, 1) := by decide +kernel
theorem d_M_input_27 : decode (xC k_M_input) 27 = .ok (.iaload, 1) := by decide +kernel
theorem d_M_input_28 : decode (xC k_M_input) 28 = .ok (.goto 4, 3) := by decide +kernel
theorem d_M_input_31 : decode (xC k_M_input) 31 = .ok (.iconst 0, 1) := by decide +kernel
theorem d_M_input_32 : decode (xC k_M_input) 32 = .ok (.istore 5, 2) := by decide +kernel
theorem d_M_input_34 : decode (xC k_M_input) 34 = .ok (.iload 4, 2) := by decide +kernel
theorem d_M_input_36 : decode (xC k_M_input) 36 = .ok (.ifCond .eq 40, 3) := by decide +kernel
theorem d_M_input_39 : decode (xC k_M_input) 39 = .ok (.iload_n 2, 1) := by decide +kernel
theorem d_M_input_40 : decode (xC k_M_input) 40 = .ok (.iconst 0, 1) := by decide +kernel
theorem d_M_input_41 : decode (xC k_M_input) 41 = .ok (.ldc 171, 2) := by decide +kernel
theorem d_M_input_43 : decode (xC k_M_input) 43 = .ok (.invokestatic 112, 3) := by decide +kernel
theorem d_M_input_46 : decode (xC k_M_input) 46 = .ok (.ifCond .eq 30, 3) := by decide +kernel
theorem d_M_input_49 : decode (xC k_M_input) 49 = .ok (.iload 5, 2) := by decide +kernel
theorem d_M_input_51 : decode (xC k_M_input) 51 = .ok (.ifCond .eq 21, 3) := by decide +kernel
theorem d_M_input_54 : decode (xC k_M_input) 54 = .ok (.iload_n 2, 1) := by decide +kernel
theorem d_M_input_55 : decode (xC k_M_input) 55 = .ok (.aload_n 0, 1) := by decide +kernel
theorem d_M_input_56 : decode (xC k_M_input) 56 = .ok (.getfield 52, 3) := by decide +kernel
theorem d_M_input_59 : decode (xC k_M_input) 59 = .ok (.bipush 60, 2) := by decide +kernel
theorem d_M_input_61 : decode (xC k_M_input) 61 = .ok (.iload_n 1, 1) := by decide +kernel
theorem d_M_input_62 : decode (xC k_M_input) 62 = .ok (.imul, 1) := by decide +kernel
theorem d_M_input_63 : decode (xC k_M_input) 63 = .ok (.iload 5, 2) := by decide +kernel
theorem d_M_input_65 : decode (xC k_M_input) 65 = .ok (.iadd, 1) := by decide +kernel
theorem d_M_input_66 : decode (xC k_M_input) 66 = .ok (.iconst 1, 1) := by decide +kernel
theorem d_M_input_67 : decode (xC k_M_input) 67 = .ok (.isub, 1) := by decide +kernel
theorem d_M_input_68 : decode (xC k_M_input) 68 = .ok (.iaload, 1) := by decide +kernel
theorem d_M_input_69 : decode (xC k_M_input) 69 = .ok (.if_icmp .le 7, 3) := by decide +kernel
theorem d_M_input_72 : decode (xC k_M_input) 72 = .ok (.iconst 1, 1) := by decide +kernel
theorem d_M_input_73 : decode (xC k_M_input) 73 = .ok (.goto 4, 3) := by decide +kernel
theorem d_M_input_76 : decode (xC k_M_input) 76 = .ok (.iconst 0, 1) := by decide +kernel
theorem d_M_input_77 : decode (xC k_M_input) 77 = .ok (.istore 6, 2) := by decide +kernel
theorem d_M_input_79 : decode (xC k_M_input) 79 = .ok (.aload_n 0, 1) := by decide +kernel
theorem d_M_input_80 : decode (xC k_M_input) 80 = .ok (.iload 4, 2) := by decide +kernel
theorem d_M_input_82 : decode (xC k_M_input) 82 = .ok (.iload 5, 2) := by decide +kernel
theorem d_M_input_84 : decode (xC k_M_input) 84 = .ok (.bipush 60, 2) := by decide +kernel
theorem d_M_input_86 : decode (xC k_M_input) 86 = .ok (.if_icmp .ge 7, 3) := by decide +kernel
theorem d_M_input_89 : decode (xC k_M_input) 89 = .ok (.iconst 1, 1) := by decide +kernel
theorem d_M_input_90 : decode (xC k_M_input) 90 = .ok (.goto 4, 3) := by decide +kernel
theorem d_M_input_93 : decode (xC k_M_input) 93 = .ok (.iconst 0, 1) := by decide +kernel
theorem d_M_input_94 : decode (xC k_M_input) 94 = .ok (.iload 6, 2) := by decide +kernel
theorem d_M_input_96 : decode (xC k_M_input) 96 = .ok (.ifCond .eq 17, 3) := by decide +kernel
theorem d_M_input_99 : decode (xC k_M_input) 99 = .ok (.iload_n 3, 1) := by decide +kernel
theorem d_M_input_100 : decode (xC k_M_input) 100 = .ok (.iconst 0, 1) := by decide +kernel
theorem d_M_input_101 : decode (xC k_M_input) 101 = .ok (.ldc 172, 2) := by decide +kernel
theorem d_M_input_103 : decode (xC k_M_input) 103 = .ok (.invokestatic 112, 3) := by decide +kernel
theorem d_M_input_106 : decode (xC k_M_input) 106 = .ok (.ifCond .eq 7, 3) := by decide +kernel
theorem d_M_input_109 : decode (xC k_M_input) 109 = .ok (.iconst 1, 1) := by decide +kernel
theorem d_M_input_110 : decode (xC k_M_input) 110 = .ok (.goto 4, 3) := by decide +kernel
theorem d_M_input_113 : decode (xC k_M_input) 113 = .ok (.iconst 0, 1) := by decide +kernel
theorem d_M_input_114 : decode (xC k_M_input) 114 = .ok (.invokevirtual 116, 3) := by decide +kernel
theorem d_M_input_117 : decode (xC k_M_input) 117 = .ok (.ifCond .ne 5, 3) := by decide +kernel
theorem d_M_input_120 : decode (xC k_M_input) 120 = .ok (.iconst 0, 1) := by decide +kernel
theorem d_M_input_121 : decode (xC k_M_input) 121 = .ok (.ireturn, 1) := by decide +kernel
theorem d_M_input_122 : decode (xC k_M_input) 122 = .ok (.aload_n 0, 1) := by decide +kernel
theorem d_M_input_123 : decode (xC k_M_input) 123 = .ok (.getfield 52, 3) := by decide +kernel
theorem d_M_input_126 : decode (xC k_M_input) 126 = .ok (.bipush 60, 2) := by decide +kernel
theorem d_M_input_128 : decode (xC k_M_input) 128 = .ok (.iload_n 1, 1) := by decide +kernel
theorem d_M_input_129 : decode (xC k_M_input) 129 = .ok (.imul, 1) := by decide +kernel
theorem d_M_input_130 : decode (xC k_M_input) 130 = .ok (.iload 5, 2) := by decide +kernel
theorem d_M_input_132 : decode (xC k_M_input) 132 = .ok (.iadd, 1) := by decide +kernel
theorem d_M_input_133 : decode (xC k_M_input) 133 = .ok (.iload_n 2, 1) := by decide +kernel
theorem d_M_input_134 : decode (xC k_M_input) 134 = .ok (.iastore, 1) := by decide +kernel
theorem d_M_input_135 : decode (xC k_M_input) 135 = .ok (.aload_n 0, 1) := by decide +kernel
theorem d_M_input_136 : decode (xC k_M_input) 136 = .ok (.getfield 55, 3) := by decide +kernel
theorem d_M_input_139 : decode (xC k_M_input) 139 = .ok (.bipush 60, 2) := by decide +kernel
theorem d_M_input_141 : decode (xC k_M_input) 141 = .ok (.iload_n 1, 1) := by decide +kernel
theorem d_M_input_142 : decode (xC k_M_input) 142 = .ok (.imul, 1) := by decide +kernel
theorem d_M_input_143 : decode (xC k_M_input) 143 = .ok (.iload 5, 2) := by decide +kernel
theorem d_M_input_145 : decode (xC k_M_input) 145 = .ok (.iadd, 1) := by decide +kernel
theorem d_M_input_146 : decode (xC k_M_input) 146 = .ok (.iload_n 3, 1) := by decide +kernel
theorem d_M_input_147 : decode (xC k_M_input) 147 = .ok (.iastore, 1) := by decide +kernel
theorem d_M_input_148 : decode (xC k_M_input) 148 = .ok (.aload_n 0, 1) := by decide +kernel
theorem d_M_input_149 : decode (xC k_M_input) 149 = .ok (.getfield 49, 3) := by decide +kernel
theorem d_M_input_152 : decode (xC k_M_input) 152 = .ok (.iload_n 1, 1) := by decide +kernel
theorem d_M_input_153 : decode (xC k_M_input) 153 = .ok (.dup2, 1) := by decide +kernel
theorem d_M_input_154 : decode (xC k_M_input) 154 = .ok (.iaload, 1) := by decide +kernel
theorem d_M_input_155 : decode (xC k_M_input) 155 = .ok (.iconst 1, 1) := by decide +kernel
theorem d_M_input_156 : decode (xC k_M_input) 156 = .ok (.iadd, 1) := by decide +kernel
theorem d_M_input_157 : decode (xC k_M_input) 157 = .ok (.iastore, 1) := by decide +kernel
theorem d_M_input_158 : decode (xC k_M_input) 158 = .ok (.aload_n 0, 1) := by decide +kernel
theorem d_M_input_159 : decode (xC k_M_input) 159 = .ok (.getfield 49, 3) := by decide +kernel
theorem d_M_input_162 : decode (xC k_M_input) 162 = .ok (.iload_n 1, 1) := by decide +kernel
theorem d_M_input_163 : decode (xC k_M_input) 163 = .ok (.iaload, 1) := by decide +kernel
theorem d_M_input_164 : decode (xC k_M_input) 164 = .ok (.ireturn, 1) := by decide +kernel
theorem d_M_fails_0 : decode (xC k_M_fails) 0 = .ok (.aload_n 0, 1) := by decide +kernel
theorem d_M_fails_1 : decode (xC k_M_fails) 1 = .ok (.iload_n 1, 1) := by decide +kernel
theorem d_M_fails_2 : decode (xC k_M_fails) 2 = .ok (.ifCond .lt 13, 3) := by decide +kernel
theorem d_M_fails_5 : decode (xC k_M_fails) 5 = .ok (.iload_n 1, 1) := by decide +kernel
theorem d_M_fails_6 : decode (xC k_M_fails) 6 = .ok (.bipush 8, 2) := by decide +kernel
theorem d_M_fails_8 : decode (xC k_M_fails) 8 = .ok (.if_icmp .ge 7, 3) := by decide +kernel
theorem d_M_fails_11 : decode (xC k_M_fails) 11 = .ok (.iconst 1, 1) := by decide +kernel
theorem d_M_fails_12 : decode (xC k_M_fails) 12 = .ok (.goto 4, 3) := by decide +kernel
theorem d_M_fails_15 : decode (xC k_M_fails) 15 = .ok (.iconst 0, 1) := by decide +kernel
theorem d_M_fails_16 : decode (xC k_M_fails) 16 = .ok (.iload_n 2, 1) := by decide +kernel
theorem d_M_fails_17 : decode (xC k_M_fails) 17 = .ok (.ifCond .lt 18, 3) := by decide +kernel
theorem d_M_fails_20 : decode (xC k_M_fails) 20 = .ok (.iload_n 2, 1) := by decide +kernel
theorem d_M_fails_21 : decode (xC k_M_fails) 21 = .ok (.iload_n 3, 1) := by decide +kernel
theorem d_M_fails_22 : decode (xC k_M_fails) 22 = .ok (.if_icmp .gt 13, 3) := by decide +kernel
theorem d_M_fails_25 : decode (xC k_M_fails) 25 = .ok (.iload_n 3, 1) := by decide +kernel
theorem d_M_fails_26 : decode (xC k_M_fails) 26 = .ok (.ldc 171, 2) := by decide +kernel
theorem d_M_fails_28 : decode (xC k_M_fails) 28 = .ok (.if_icmp .gt 7, 3) := by decide +kernel
theorem d_M_fails_31 : decode (xC k_M_fails) 31 = .ok (.iconst 1, 1) := by decide +kernel
theorem d_M_fails_32 : decode (xC k_M_fails) 32 = .ok (.goto 4, 3) := by decide +kernel
theorem d_M_fails_35 : decode (xC k_M_fails) 35 = .ok (.iconst 0, 1) := by decide +kernel
theorem d_M_fails_36 : decode (xC k_M_fails) 36 = .ok (.iconst 1, 1) := by decide +kernel
theorem d_M_fails_37 : decode (xC k_M_fails) 37 = .ok (.invokevirtual 116, 3) := by decide +kernel
theorem d_M_fails_40 : decode (xC k_M_fails) 40 = .ok (.ifCond .eq 17, 3) := by decide +kernel
theorem d_M_fails_43 : decode (xC k_M_fails) 43 = .ok (.aload_n 0, 1) := by decide +kernel
theorem d_M_fails_44 : decode (xC k_M_fails) 44 = .ok (.getfield 58, 3) := by decide +kernel
theorem d_M_fails_47 : decode (xC k_M_fails) 47 = .ok (.iload_n 1, 1) := by decide +kernel
theorem d_M_fails_48 : decode (xC k_M_fails) 48 = .ok (.iload_n 2, 1) := by decide +kernel
theorem d_M_fails_49 : decode (xC k_M_fails) 49 = .ok (.iastore, 1) := by decide +kernel
theorem d_M_fails_50 : decode (xC k_M_fails) 50 = .ok (.aload_n 0, 1) := by decide +kernel
theorem d_M_fails_51 : decode (xC k_M_fails) 51 = .ok (.getfield 61, 3) := by decide +kernel
theorem d_M_fails_54 : decode (xC k_M_fails) 54 = .ok (.iload_n 1, 1) := by decide +kernel
theorem d_M_fails_55 : decode (xC k_M_fails) 55 = .ok (.iload_n 3, 1) := by decide +kernel
theorem d_M_fails_56 : decode (xC k_M_fails) 56 = .ok (.iastore, 1) := by decide +kernel
theorem d_M_fails_57 : decode (xC k_M_fails) 57 = .ok (.return_, 1) := by decide +kernel
theorem d_M_valueAt_0 : decode (xC k_M_valueAt) 0 = .ok (.iconst (-1), 1) := by decide +kernel
theorem d_M_valueAt_1 : decode (xC k_M_valueAt) 1 = .ok (.istore_n 3, 1) := by decide +kernel
theorem d_M_valueAt_2 : decode (xC k_M_valueAt) 2 = .ok (.bipush 60, 2) := by decide +kernel
theorem d_M_valueAt_4 : decode (xC k_M_valueAt) 4 = .ok (.iload_n 1, 1) := by decide +kernel
theorem d_M_valueAt_5 : decode (xC k_M_valueAt) 5 = .ok (.imul, 1) := by decide +kernel
theorem d_M_valueAt_6 : decode (xC k_M_valueAt) 6 = .ok (.istore 4, 2) := by decide +kernel
theorem d_M_valueAt_8 : decode (xC k_M_valueAt) 8 = .ok (.iload 4, 2) := by decide +kernel
theorem d_M_valueAt_10 : decode (xC k_M_valueAt) 10 = .ok (.bipush 60, 2) := by decide +kernel
theorem d_M_valueAt_12 : decode (xC k_M_valueAt) 12 = .ok (.iload_n 1, 1) := by decide +kernel
theorem d_M_valueAt_13 : decode (xC k_M_valueAt) 13 = .ok (.imul, 1) := by decide +kernel
theorem d_M_valueAt_14 : decode (xC k_M_valueAt) 14 = .ok (.aload_n 0, 1) := by decide +kernel
theorem d_M_valueAt_15 : decode (xC k_M_valueAt) 15 = .ok (.getfield 49, 3) := by decide +kernel
theorem d_M_valueAt_18 : decode (xC k_M_valueAt) 18 = .ok (.iload_n 1, 1) := by decide +kernel
theorem d_M_valueAt_19 : decode (xC k_M_valueAt) 19 = .ok (.iaload, 1) := by decide +kernel
theorem d_M_valueAt_20 : decode (xC k_M_valueAt) 20 = .ok (.iadd, 1) := by decide +kernel
theorem d_M_valueAt_21 : decode (xC k_M_valueAt) 21 = .ok (.if_icmp .ge 32, 3) := by decide +kernel
theorem d_M_valueAt_24 : decode (xC k_M_valueAt) 24 = .ok (.aload_n 0, 1) := by decide +kernel
theorem d_M_valueAt_25 : decode (xC k_M_valueAt) 25 = .ok (.getfield 52, 3) := by decide +kernel
theorem d_M_valueAt_28 : decode (xC k_M_valueAt) 28 = .ok (.iload 4, 2) := by decide +kernel
theorem d_M_valueAt_30 : decode (xC k_M_valueAt) 30 = .ok (.iaload, 1) := by decide +kernel
theorem d_M_valueAt_31 : decode (xC k_M_valueAt) 31 = .ok (.iload_n 2, 1) := by decide +kernel
theorem d_M_valueAt_32 : decode (xC k_M_valueAt) 32 = .ok (.if_icmp .gt 13, 3) := by decide +kernel
theorem d_M_valueAt_35 : decode (xC k_M_valueAt) 35 = .ok (.aload_n 0, 1) := by decide +kernel
theorem d_M_valueAt_36 : decode (xC k_M_valueAt) 36 = .ok (.getfield 55, 3) := by decide +kernel
theorem d_M_valueAt_39 : decode (xC k_M_valueAt) 39 = .ok (.iload 4, 2) := by decide +kernel
theorem d_M_valueAt_41 : decode (xC k_M_valueAt) 41 = .ok (.iaload, 1) := by decide +kernel
theorem d_M_valueAt_42 : decode (xC k_M_valueAt) 42 = .ok (.goto 4, 3) := by decide +kernel
theorem d_M_valueAt_45 : decode (xC k_M_valueAt) 45 = .ok (.iload_n 3, 1) := by decide +kernel
theorem d_M_valueAt_46 : decode (xC k_M_valueAt) 46 = .ok (.istore_n 3, 1) := by decide +kernel
theorem d_M_valueAt_47 : decode (xC k_M_valueAt) 47 = .ok (.iinc 4 1, 3) := by decide +kernel
theorem d_M_valueAt_50 : decode (xC k_M_valueAt) 50 = .ok (.goto (-42), 3) := by decide +kernel
theorem d_M_valueAt_53 : decode (xC k_M_valueAt) 53 = .ok (.aload_n 0, 1) := by decide +kernel
theorem d_M_valueAt_54 : decode (xC k_M_valueAt) 54 = .ok (.getfield 61, 3) := by decide +kernel
theorem d_M_valueAt_57 : decode (xC k_M_valueAt) 57 = .ok (.iload_n 1, 1) := by decide +kernel
theorem d_M_valueAt_58 : decode (xC k_M_valueAt) 58 = .ok (.iaload, 1) := by decide +kernel
theorem d_M_valueAt_59 : decode (xC k_M_valueAt) 59 = .ok (.iconst (-1), 1) := by decide +kernel
theorem d_M_valueAt_60 : decode (xC k_M_valueAt) 60 = .ok (.if_icmp .eq 26, 3) := by decide +kernel
theorem d_M_valueAt_63 : decode (xC k_M_valueAt) 63 = .ok (.iload_n 2, 1) := by decide +kernel
theorem d_M_valueAt_64 : decode (xC k_M_valueAt) 64 = .ok (.aload_n 0, 1) := by decide +kernel
theorem d_M_valueAt_65 : decode (xC k_M_valueAt) 65 = .ok (.getfield 58, 3) := by decide +kernel
theorem d_M_valueAt_68 : decode (xC k_M_valueAt) 68 = .ok (.iload_n 1, 1) := by decide +kernel
theorem d_M_valueAt_69 : decode (xC k_M_valueAt) 69 = .ok (.iaload, 1) := by decide +kernel
theorem d_M_valueAt_70 : decode (xC k_M_valueAt) 70 = .ok (.aload_n 0, 1) := by decide +kernel
theorem d_M_valueAt_71 : decode (xC k_M_valueAt) 71 = .ok (.getfield 61, 3) := by decide +kernel
theorem d_M_valueAt_74 : decode (xC k_M_valueAt) 74 = .ok (.iload_n 1, 1) := by decide +kernel
theorem d_M_valueAt_75 : decode (xC k_M_valueAt) 75 = .ok (.iaload, 1) := by decide +kernel
theorem d_M_valueAt_76 : decode (xC k_M_valueAt) 76 = .ok (.invokestatic 112, 3) := by decide +kernel
theorem d_M_valueAt_79 : decode (xC k_M_valueAt) 79 = .ok (.ifCond .eq 7, 3) := by decide +kernel
theorem d_M_valueAt_82 : decode (xC k_M_valueAt) 82 = .ok (.iconst (-1), 1) := by decide +kernel
theorem d_M_valueAt_83 : decode (xC k_M_valueAt) 83 = .ok (.goto 4, 3) := by decide +kernel
theorem d_M_valueAt_86 : decode (xC k_M_valueAt) 86 = .ok (.iload_n 3, 1) := by decide +kernel
theorem d_M_valueAt_87 : decode (xC k_M_valueAt) 87 = .ok (.ireturn, 1) := by decide +kernel
theorem d_M_isOut_0 : decode (xC k_M_isOut) 0 = .ok (.iconst 0, 1) := by decide +kernel
theorem d_M_isOut_1 : decode (xC k_M_isOut) 1 = .ok (.istore 5, 2) := by decide +kernel
theorem d_M_isOut_3 : decode (xC k_M_isOut) 3 = .ok (.iload 5, 2) := by decide +kernel
theorem d_M_isOut_5 : decode (xC k_M_isOut) 5 = .ok (.aload_n 0, 1) := by decide +kernel
theorem d_M_isOut_6 : decode (xC k_M_isOut) 6 = .ok (.getfield 105, 3) := by decide +kernel
theorem d_M_isOut_9 : decode (xC k_M_isOut) 9 = .ok (.if_icmp .ge 51, 3) := by decide +kernel
theorem d_M_isOut_12 : decode (xC k_M_isOut) 12 = .ok (.iload 5, 2) := by decide +kernel
theorem d_M_isOut_14 : decode (xC k_M_isOut) 14 = .ok (.iload 4, 2) := by decide +kernel
theorem d_M_isOut_16 : decode (xC k_M_isOut) 16 = .ok (.if_icmp .eq 38, 3) := by decide +kernel
theorem d_M_isOut_19 : decode (xC k_M_isOut) 19 = .ok (.aload_n 0, 1) := by decide +kernel
theorem d_M_isOut_20 : decode (xC k_M_isOut) 20 = .ok (.getfield 67, 3) := by decide +kernel
theorem d_M_isOut_23 : decode (xC k_M_isOut) 23 = .ok (.iload 5, 2) := by decide +kernel
theorem d_M_isOut_25 : decode (xC k_M_isOut) 25 = .ok (.iaload, 1) := by decide +kernel
theorem d_M_isOut_26 : decode (xC k_M_isOut) 26 = .ok (.iload_n 1, 1) := by decide +kernel
theorem d_M_isOut_27 : decode (xC k_M_isOut) 27 = .ok (.if_icmp .ne 27, 3) := by decide +kernel
theorem d_M_isOut_30 : decode (xC k_M_isOut) 30 = .ok (.aload_n 0, 1) := by decide +kernel
theorem d_M_isOut_31 : decode (xC k_M_isOut) 31 = .ok (.getfield 70, 3) := by decide +kernel
theorem d_M_isOut_34 : decode (xC k_M_isOut) 34 = .ok (.iload 5, 2) := by decide +kernel
theorem d_M_isOut_36 : decode (xC k_M_isOut) 36 = .ok (.iaload, 1) := by decide +kernel
theorem d_M_isOut_37 : decode (xC k_M_isOut) 37 = .ok (.iload_n 3, 1) := by decide +kernel
theorem d_M_isOut_38 : decode (xC k_M_isOut) 38 = .ok (.if_icmp .gt 16, 3) := by decide +kernel
theorem d_M_isOut_41 : decode (xC k_M_isOut) 41 = .ok (.iload_n 2, 1) := by decide +kernel
theorem d_M_isOut_42 : decode (xC k_M_isOut) 42 = .ok (.aload_n 0, 1) := by decide +kernel
theorem d_M_isOut_43 : decode (xC k_M_isOut) 43 = .ok (.getfield 73, 3) := by decide +kernel
theorem d_M_isOut_46 : decode (xC k_M_isOut) 46 = .ok (.iload 5, 2) := by decide +kernel
theorem d_M_isOut_48 : decode (xC k_M_isOut) 48 = .ok (.iaload, 1) := by decide +kernel
theorem d_M_isOut_49 : decode (xC k_M_isOut) 49 = .ok (.if_icmp .gt 5, 3) := by decide +kernel
theorem d_M_isOut_52 : decode (xC k_M_isOut) 52 = .ok (.iconst 1, 1) := by decide +kernel
theorem d_M_isOut_53 : decode (xC k_M_isOut) 53 = .ok (.ireturn, 1) := by decide +kernel
theorem d_M_isOut_54 : decode (xC k_M_isOut) 54 = .ok (.iinc 5 1, 3) := by decide +kernel
theorem d_M_isOut_57 : decode (xC k_M_isOut) 57 = .ok (.goto (-54), 3) := by decide +kernel
theorem d_M_isOut_60 : decode (xC k_M_isOut) 60 = .ok (.iconst 0, 1) := by decide +kernel
theorem d_M_isOut_61 : decode (xC k_M_isOut) 61 = .ok (.ireturn, 1) := by decide +kernel
theorem d_M_loan_0 : decode (xC k_M_loan) 0 = .ok (.aload_n 0, 1) := by decide +kernel
theorem d_M_loan_1 : decode (xC k_M_loan) 1 = .ok (.aload_n 0, 1) := by decide +kernel
theorem d_M_loan_2 : decode (xC k_M_loan) 2 = .ok (.iload_n 1, 1) := by decide +kernel
theorem d_M_loan_3 : decode (xC k_M_loan) 3 = .ok (.invokevirtual 146, 3) := by decide +kernel
theorem d_M_loan_6 : decode (xC k_M_loan) 6 = .ok (.ifCond .eq 14, 3) := by decide +kernel
theorem d_M_loan_9 : decode (xC k_M_loan) 9 = .ok (.iload_n 2, 1) := by decide +kernel
theorem d_M_loan_10 : decode (xC k_M_loan) 10 = .ok (.invokestatic 173, 3) := by decide +kernel
theorem d_M_loan_13 : decode (xC k_M_loan) 13 = .ok (.ifCond .eq 7, 3) := by decide +kernel
theorem d_M_loan_16 : decode (xC k_M_loan) 16 = .ok (.iconst 1, 1) := by decide +kernel
theorem d_M_loan_17 : decode (xC k_M_loan) 17 = .ok (.goto 4, 3) := by decide +kernel
theorem d_M_loan_20 : decode (xC k_M_loan) 20 = .ok (.iconst 0, 1) := by decide +kernel
theorem d_M_loan_21 : decode (xC k_M_loan) 21 = .ok (.aload_n 0, 1) := by decide +kernel
theorem d_M_loan_22 : decode (xC k_M_loan) 22 = .ok (.getfield 105, 3) := by decide +kernel
theorem d_M_loan_25 : decode (xC k_M_loan) 25 = .ok (.bipush 20, 2) := by decide +kernel
theorem d_M_loan_27 : decode (xC k_M_loan) 27 = .ok (.if_icmp .ge 7, 3) := by decide +kernel
theorem d_M_loan_30 : decode (xC k_M_loan) 30 = .ok (.iconst 1, 1) := by decide +kernel
theorem d_M_loan_31 : decode (xC k_M_loan) 31 = .ok (.goto 4, 3) := by decide +kernel
theorem d_M_loan_34 : decode (xC k_M_loan) 34 = .ok (.iconst 0, 1) := by decide +kernel
theorem d_M_loan_35 : decode (xC k_M_loan) 35 = .ok (.iload_n 3, 1) := by decide +kernel
theorem d_M_loan_36 : decode (xC k_M_loan) 36 = .ok (.iload 4, 2) := by decide +kernel
theorem d_M_loan_38 : decode (xC k_M_loan) 38 = .ok (.invokestatic 176, 3) := by decide +kernel
theorem d_M_loan_41 : decode (xC k_M_loan) 41 = .ok (.invokevirtual 116, 3) := by decide +kernel
theorem d_M_loan_44 : decode (xC k_M_loan) 44 = .ok (.ifCond .ne 5, 3) := by decide +kernel
theorem d_M_loan_47 : decode (xC k_M_loan) 47 = .ok (.iconst 0, 1) := by decide +kernel
theorem d_M_loan_48 : decode (xC k_M_loan) 48 = .ok (.ireturn, 1) := by decide +kernel
theorem d_M_loan_49 : decode (xC k_M_loan) 49 = .ok (.aload_n 0, 1) := by decide +kernel
theorem d_M_loan_50 : decode (xC k_M_loan) 50 = .ok (.iload_n 2, 1) := by decide +kernel
theorem d_M_loan_51 : decode (xC k_M_loan) 51 = .ok (.iload_n 3, 1) := by decide +kernel
theorem d_M_loan_52 : decode (xC k_M_loan) 52 = .ok (.iload 4, 2) := by decide +kernel
theorem d_M_loan_54 : decode (xC k_M_loan) 54 = .ok (.iconst (-1), 1) := by decide +kernel
theorem d_M_loan_55 : decode (xC k_M_loan) 55 = .ok (.invokevirtual 180, 3) := by decide +kernel
theorem d_M_loan_58 : decode (xC k_M_loan) 58 = .ok (.ifCond .eq 5, 3) := by decide +kernel
theorem d_M_loan_61 : decode (xC k_M_loan) 61 = .ok (.iconst (-1), 1) := by decide +kernel
theorem d_M_loan_62 : decode (xC k_M_loan) 62 = .ok (.ireturn, 1) := by decide +kernel
theorem d_M_loan_63 : decode (xC k_M_loan) 63 = .ok (.aload_n 0, 1) := by decide +kernel
theorem d_M_loan_64 : decode (xC k_M_loan) 64 = .ok (.getfield 64, 3) := by decide +kernel
theorem d_M_loan_67 : decode (xC k_M_loan) 67 = .ok (.aload_n 0, 1) := by decide +kernel
theorem d_M_loan_68 : decode (xC k_M_loan) 68 = .ok (.getfield 105, 3) := by decide +kernel
theorem d_M_loan_71 : decode (xC k_M_loan) 71 = .ok (.iload_n 1, 1) := by decide +kernel
theorem d_M_loan_72 : decode (xC k_M_loan) 72 = .ok (.iastore, 1) := by decide +kernel
theorem d_M_loan_73 : decode (xC k_M_loan) 73 = .ok (.aload_n 0, 1) := by decide +kernel
theorem d_M_loan_74 : decode (xC k_M_loan) 74 = .ok (.getfield 67, 3) := by decide +kernel
theorem d_M_loan_77 : decode (xC k_M_loan) 77 = .ok (.aload_n 0, 1) := by decide +kernel
theorem d_M_loan_78 : decode (xC k_M_loan) 78 = .ok (.getfield 105, 3) := by decide +kernel
theorem d_M_loan_81 : decode (xC k_M_loan) 81 = .ok (.iload_n 2, 1) := by decide +kernel
theorem d_M_loan_82 : decode (xC k_M_loan) 82 = .ok (.iastore, 1) := by decide +kernel
theorem d_M_loan_83 : decode (xC k_M_loan) 83 = .ok (.aload_n 0, 1) := by decide +kernel
theorem d_M_loan_84 : decode (xC k_M_loan) 84 = .ok (.getfield 70, 3) := by decide +kernel
theorem d_M_loan_87 : decode (xC k_M_loan) 87 = .ok (.aload_n 0, 1) := by decide +kernel
theorem d_M_loan_88 : decode (xC k_M_loan) 88 = .ok (.getfield 105, 3) := by decide +kernel
theorem d_M_loan_91 : decode (xC k_M_loan) 91 = .ok (.iload_n 3, 1) := by decide +kernel
theorem d_M_loan_92 : decode (xC k_M_loan) 92 = .ok (.iastore, 1) := by decide +kernel
theorem d_M_loan_93 : decode (xC k_M_loan) 93 = .ok (.aload_n 0, 1) := by decide +kernel
theorem d_M_loan_94 : decode (xC k_M_loan) 94 = .ok (.getfield 73, 3) := by decide +kernel
theorem d_M_loan_97 : decode (xC k_M_loan) 97 = .ok (.aload_n 0, 1) := by decide +kernel
theorem d_M_loan_98 : decode (xC k_M_loan) 98 = .ok (.getfield 105, 3) := by decide +kernel
theorem d_M_loan_101 : decode (xC k_M_loan) 101 = .ok (.iload 4, 2) := by decide +kernel
theorem d_M_loan_103 : decode (xC k_M_loan) 103 = .ok (.iastore, 1) := by decide +kernel
theorem d_M_loan_104 : decode (xC k_M_loan) 104 = .ok (.aload_n 0, 1) := by decide +kernel
theorem d_M_loan_105 : decode (xC k_M_loan) 105 = .ok (.dup, 1) := by decide +kernel
theorem d_M_loan_106 : decode (xC k_M_loan) 106 = .ok (.getfield 105, 3) := by decide +kernel
theorem d_M_loan_109 : decode (xC k_M_loan) 109 = .ok (.iconst 1, 1) := by decide +kernel
theorem d_M_loan_110 : decode (xC k_M_loan) 110 = .ok (.iadd, 1) := by decide +kernel
theorem d_M_loan_111 : decode (xC k_M_loan) 111 = .ok (.putfield 105, 3) := by decide +kernel
theorem d_M_loan_114 : decode (xC k_M_loan) 114 = .ok (.aload_n 0, 1) := by decide +kernel
theorem d_M_loan_115 : decode (xC k_M_loan) 115 = .ok (.getfield 105, 3) := by decide +kernel
theorem d_M_loan_118 : decode (xC k_M_loan) 118 = .ok (.iconst 1, 1) := by decide +kernel
theorem d_M_loan_119 : decode (xC k_M_loan) 119 = .ok (.isub, 1) := by decide +kernel
theorem d_M_loan_120 : decode (xC k_M_loan) 120 = .ok (.ireturn, 1) := by decide +kernel
theorem d_M_shield_0 : decode (xC k_M_shield) 0 = .ok (.aload_n 0, 1) := by decide +kernel
theorem d_M_shield_1 : decode (xC k_M_shield) 1 = .ok (.aload_n 0, 1) := by decide +kernel
theorem d_M_shield_2 : decode (xC k_M_shield) 2 = .ok (.iload_n 1, 1) := by decide +kernel
theorem d_M_shield_3 : decode (xC k_M_shield) 3 = .ok (.invokevirtual 184, 3) := by decide +kernel
theorem d_M_shield_6 : decode (xC k_M_shield) 6 = .ok (.iconst 1, 1) := by decide +kernel
theorem d_M_shield_7 : decode (xC k_M_shield) 7 = .ok (.iconst 1, 1) := by decide +kernel
theorem d_M_shield_8 : decode (xC k_M_shield) 8 = .ok (.invokevirtual 116, 3) := by decide +kernel
theorem d_M_shield_11 : decode (xC k_M_shield) 11 = .ok (.ifCond .ne 5, 3) := by decide +kernel
theorem d_M_shield_14 : decode (xC k_M_shield) 14 = .ok (.iconst 0, 1) := by decide +kernel
theorem d_M_shield_15 : decode (xC k_M_shield) 15 = .ok (.ireturn, 1) := by decide +kernel
theorem d_M_shield_16 : decode (xC k_M_shield) 16 = .ok (.aload_n 0, 1) := by decide +kernel
theorem d_M_shield_17 : decode (xC k_M_shield) 17 = .ok (.getfield 76, 3) := by decide +kernel
theorem d_M_shield_20 : decode (xC k_M_shield) 20 = .ok (.iload_n 1, 1) := by decide +kernel
theorem d_M_shield_21 : decode (xC k_M_shield) 21 = .ok (.baload, 1) := by decide +kernel
theorem d_M_shield_22 : decode (xC k_M_shield) 22 = .ok (.istore_n 3, 1) := by decide +kernel
theorem d_M_shield_23 : decode (xC k_M_shield) 23 = .ok (.aload_n 0, 1) := by decide +kernel
theorem d_M_shield_24 : decode (xC k_M_shield) 24 = .ok (.getfield 76, 3) := by decide +kernel
theorem d_M_shield_27 : decode (xC k_M_shield) 27 = .ok (.iload_n 1, 1) := by decide +kernel
theorem d_M_shield_28 : decode (xC k_M_shield) 28 = .ok (.iload_n 2, 1) := by decide +kernel
theorem d_M_shield_29 : decode (xC k_M_shield) 29 = .ok (.bastore, 1) := by decide +kernel
theorem d_M_shield_30 : decode (xC k_M_shield) 30 = .ok (.iload_n 3, 1) := by decide +kernel
theorem d_M_shield_31 : decode (xC k_M_shield) 31 = .ok (.iload_n 2, 1) := by decide +kernel
theorem d_M_shield_32 : decode (xC k_M_shield) 32 = .ok (.if_icmp .eq 7, 3) := by decide +kernel
theorem d_M_shield_35 : decode (xC k_M_shield) 35 = .ok (.iconst 1, 1) := by decide +kernel
theorem d_M_shield_36 : decode (xC k_M_shield) 36 = .ok (.goto 4, 3) := by decide +kernel
theorem d_M_shield_39 : decode (xC k_M_shield) 39 = .ok (.iconst 0, 1) := by decide +kernel
theorem d_M_shield_40 : decode (xC k_M_shield) 40 = .ok (.ireturn, 1) := by decide +kernel
theorem d_M_leaf_0 : decode (xC k_M_leaf) 0 = .ok (.aload_n 0, 1) := by decide +kernel
theorem d_M_leaf_1 : decode (xC k_M_leaf) 1 = .ok (.getfield 31, 3) := by decide +kernel
theorem d_M_leaf_4 : decode (xC k_M_leaf) 4 = .ok (.iload_n 2, 1) := by decide +kernel
theorem d_M_leaf_5 : decode (xC k_M_leaf) 5 = .ok (.iaload, 1) := by decide +kernel
theorem d_M_leaf_6 : decode (xC k_M_leaf) 6 = .ok (.istore 4, 2) := by decide +kernel
theorem d_M_leaf_8 : decode (xC k_M_leaf) 8 = .ok (.iload 4, 2) := by decide +kernel
theorem d_M_leaf_10 : decode (xC k_M_leaf) 10 = .ok (.bipush 121, 2) := by decide +kernel
theorem d_M_leaf_12 : decode (xC k_M_leaf) 12 = .ok (.if_icmp .eq 10, 3) := by decide +kernel
theorem d_M_leaf_15 : decode (xC k_M_leaf) 15 = .ok (.iload 4, 2) := by decide +kernel
theorem d_M_leaf_17 : decode (xC k_M_leaf) 17 = .ok (.bipush 122, 2) := by decide +kernel
theorem d_M_leaf_19 : decode (xC k_M_leaf) 19 = .ok (.if_icmp .ne 7, 3) := by decide +kernel
theorem d_M_leaf_22 : decode (xC k_M_leaf) 22 = .ok (.iconst 1, 1) := by decide +kernel
theorem d_M_leaf_23 : decode (xC k_M_leaf) 23 = .ok (.goto 4, 3) := by decide +kernel
theorem d_M_leaf_26 : decode (xC k_M_leaf) 26 = .ok (.iconst 0, 1) := by decide +kernel
theorem d_M_leaf_27 : decode (xC k_M_leaf) 27 = .ok (.istore 5, 2) := by decide +kernel
theorem d_M_leaf_29 : decode (xC k_M_leaf) 29 = .ok (.iload 4, 2) := by decide +kernel
theorem d_M_leaf_31 : decode (xC k_M_leaf) 31 = .ok (.bipush 121, 2) := by decide +kernel
theorem d_M_leaf_33 : decode (xC k_M_leaf) 33 = .ok (.if_icmp .ne 17, 3) := by decide +kernel
theorem d_M_leaf_36 : decode (xC k_M_leaf) 36 = .ok (.iload_n 3, 1) := by decide +kernel
theorem d_M_leaf_37 : decode (xC k_M_leaf) 37 = .ok (.bipush 24, 2) := by decide +kernel
theorem d_M_leaf_39 : decode (xC k_M_leaf) 39 = .ok (.idiv, 1) := by decide +kernel
theorem d_M_leaf_40 : decode (xC k_M_leaf) 40 = .ok (.aload_n 0, 1) := by decide +kernel
theorem d_M_leaf_41 : decode (xC k_M_leaf) 41 = .ok (.getfield 70, 3) := by decide +kernel
theorem d_M_leaf_44 : decode (xC k_M_leaf) 44 = .ok (.iload_n 1, 1) := by decide +kernel
theorem d_M_leaf_45 : decode (xC k_M_leaf) 45 = .ok (.iaload, 1) := by decide +kernel
theorem d_M_leaf_46 : decode (xC k_M_leaf) 46 = .ok (.isub, 1) := by decide +kernel
theorem d_M_leaf_47 : decode (xC k_M_leaf) 47 = .ok (.goto 37, 3) := by decide +kernel
theorem d_M_leaf_50 : decode (xC k_M_leaf) 50 = .ok (.iload 4, 2) := by decide +kernel
theorem d_M_leaf_52 : decode (xC k_M_leaf) 52 = .ok (.bipush 122, 2) := by decide +kernel
theorem d_M_leaf_54 : decode (xC k_M_leaf) 54 = .ok (.if_icmp .ne 20, 3) := by decide +kernel
theorem d_M_leaf_57 : decode (xC k_M_leaf) 57 = .ok (.aload_n 0, 1) := by decide +kernel
theorem d_M_leaf_58 : decode (xC k_M_leaf) 58 = .ok (.getfield 76, 3) := by decide +kernel
theorem d_M_leaf_61 : decode (xC k_M_leaf) 61 = .ok (.iload_n 1, 1) := by decide +kernel
theorem d_M_leaf_62 : decode (xC k_M_leaf) 62 = .ok (.baload, 1) := by decide +kernel
theorem d_M_leaf_63 : decode (xC k_M_leaf) 63 = .ok (.ifCond .eq 7, 3) := by decide +kernel
theorem d_M_leaf_66 : decode (xC k_M_leaf) 66 = .ok (.iconst 1, 1) := by decide +kernel
theorem d_M_leaf_67 : decode (xC k_M_leaf) 67 = .ok (.goto 17, 3) := by decide +kernel
theorem d_M_leaf_70 : decode (xC k_M_leaf) 70 = .ok (.iconst 0, 1) := by decide +kernel
theorem d_M_leaf_71 : decode (xC k_M_leaf) 71 = .ok (.goto 13, 3) := by decide +kernel
theorem d_M_leaf_74 : decode (xC k_M_leaf) 74 = .ok (.aload_n 0, 1) := by decide +kernel
theorem d_M_leaf_75 : decode (xC k_M_leaf) 75 = .ok (.iload 4, 2) := by decide +kernel
theorem d_M_leaf_77 : decode (xC k_M_leaf) 77 = .ok (.bipush 97, 2) := by decide +kernel
theorem d_M_leaf_79 : decode (xC k_M_leaf) 79 = .ok (.isub, 1) := by decide +kernel
theorem d_M_leaf_80 : decode (xC k_M_leaf) 80 = .ok (.iload_n 3, 1) := by decide +kernel
theorem d_M_leaf_81 : decode (xC k_M_leaf) 81 = .ok (.invokevirtual 187, 3) := by decide +kernel
theorem d_M_leaf_84 : decode (xC k_M_leaf) 84 = .ok (.istore 6, 2) := by decide +kernel
theorem d_M_leaf_86 : decode (xC k_M_leaf) 86 = .ok (.iload 5, 2) := by decide +kernel
theorem d_M_leaf_88 : decode (xC k_M_leaf) 88 = .ok (.ifCond .ne 11, 3) := by decide +kernel
theorem d_M_leaf_91 : decode (xC k_M_leaf) 91 = .ok (.iload 6, 2) := by decide +kernel
theorem d_M_leaf_93 : decode (xC k_M_leaf) 93 = .ok (.iconst (-1), 1) := by decide +kernel
theorem d_M_leaf_94 : decode (xC k_M_leaf) 94 = .ok (.if_icmp .ne 5, 3) := by decide +kernel
theorem d_M_leaf_97 : decode (xC k_M_leaf) 97 = .ok (.iconst 2, 1) := by decide +kernel
theorem d_M_leaf_98 : decode (xC k_M_leaf) 98 = .ok (.ireturn, 1) := by decide +kernel
theorem d_M_leaf_99 : decode (xC k_M_leaf) 99 = .ok (.aload_n 0, 1) := by decide +kernel
theorem d_M_leaf_100 : decode (xC k_M_leaf) 100 = .ok (.getfield 37, 3) := by decide +kernel
theorem d_M_leaf_103 : decode (xC k_M_leaf) 103 = .ok (.iload_n 2, 1) := by decide +kernel
theorem d_M_leaf_104 : decode (xC k_M_leaf) 104 = .ok (.iaload, 1) := by decide +kernel
theorem d_M_leaf_105 : decode (xC k_M_leaf) 105 = .ok (.istore 7, 2) := by decide +kernel
theorem d_M_leaf_107 : decode (xC k_M_leaf) 107 = .ok (.aload_n 0, 1) := by decide +kernel
theorem d_M_leaf_108 : decode (xC k_M_leaf) 108 = .ok (.getfield 34, 3) := by decide +kernel
theorem d_M_leaf_111 : decode (xC k_M_leaf) 111 = .ok (.iload_n 2, 1) := by decide +kernel
theorem d_M_leaf_112 : decode (xC k_M_leaf) 112 = .ok (.iaload, 1) := by decide +kernel
theorem d_M_leaf_113 : decode (xC k_M_leaf) 113 = .ok (.bipush 60, 2) := by decide +kernel
theorem d_M_leaf_115 : decode (xC k_M_leaf) 115 = .ok (.if_icmp .ne 18, 3) := by decide +kernel
theorem d_M_leaf_118 : decode (xC k_M_leaf) 118 = .ok (.iload 6, 2) := by decide +kernel
theorem d_M_leaf_120 : decode (xC k_M_leaf) 120 = .ok (.iload 7, 2) := by decide +kernel
theorem d_M_leaf_122 : decode (xC k_M_leaf) 122 = .ok (.if_icmp .ge 7, 3) := by decide +kernel
theorem d_M_leaf_125 : decode (xC k_M_leaf) 125 = .ok (.iconst 1, 1) := by decide +kernel
theorem d_M_leaf_126 : decode (xC k_M_leaf) 126 = .ok (.goto 45, 3) := by decide +kernel
theorem d_M_leaf_129 : decode (xC k_M_leaf) 129 = .ok (.iconst 0, 1) := by decide +kernel
theorem d_M_leaf_130 : decode (xC k_M_leaf) 130 = .ok (.goto 41, 3) := by decide +kernel
theorem d_M_leaf_133 : decode (xC k_M_leaf) 133 = .ok (.aload_n 0, 1) := by decide +kernel
theorem d_M_leaf_134 : decode (xC k_M_leaf) 134 = .ok (.getfield 34, 3) := by decide +kernel
theorem d_M_leaf_137 : decode (xC k_M_leaf) 137 = .ok (.iload_n 2, 1) := by decide +kernel
theorem d_M_leaf_138 : decode (xC k_M_leaf) 138 = .ok (.iaload, 1) := by decide +kernel
theorem d_M_leaf_139 : decode (xC k_M_leaf) 139 = .ok (.bipush 61, 2) := by decide +kernel
theorem d_M_leaf_141 : decode (xC k_M_leaf) 141 = .ok (.if_icmp .ne 18, 3) := by decide +kernel
theorem d_M_leaf_144 : decode (xC k_M_leaf) 144 = .ok (.iload 6, 2) := by decide +kernel
theorem d_M_leaf_146 : decode (xC k_M_leaf) 146 = .ok (.iload 7, 2) := by decide +kernel
theorem d_M_leaf_148 : decode (xC k_M_leaf) 148 = .ok (.if_icmp .ne 7, 3) := by decide +kernel
theorem d_M_leaf_151 : decode (xC k_M_leaf) 151 = .ok (.iconst 1, 1) := by decide +kernel
theorem d_M_leaf_152 : decode (xC k_M_leaf) 152 = .ok (.goto 19, 3) := by decide +kernel
theorem d_M_leaf_155 : decode (xC k_M_leaf) 155 = .ok (.iconst 0, 1) := by decide +kernel
theorem d_M_leaf_156 : decode (xC k_M_leaf) 156 = .ok (.goto 15, 3) := by decide +kernel
theorem d_M_leaf_159 : decode (xC k_M_leaf) 159 = .ok (.iload 6, 2) := by decide +kernel
theorem d_M_leaf_161 : decode (xC k_M_leaf) 161 = .ok (.iload 7, 2) := by decide +kernel
theorem d_M_leaf_163 : decode (xC k_M_leaf) 163 = .ok (.if_icmp .le 7, 3) := by decide +kernel
theorem d_M_leaf_166 : decode (xC k_M_leaf) 166 = .ok (.iconst 1, 1) := by decide +kernel
theorem d_M_leaf_167 : decode (xC k_M_leaf) 167 = .ok (.goto 4, 3) := by decide +kernel
theorem d_M_leaf_170 : decode (xC k_M_leaf) 170 = .ok (.iconst 0, 1) := by decide +kernel
theorem d_M_leaf_171 : decode (xC k_M_leaf) 171 = .ok (.istore 8, 2) := by decide +kernel
theorem d_M_leaf_173 : decode (xC k_M_leaf) 173 = .ok (.iload 8, 2) := by decide +kernel
theorem d_M_leaf_175 : decode (xC k_M_leaf) 175 = .ok (.ifCond .eq 7, 3) := by decide +kernel
theorem d_M_leaf_178 : decode (xC k_M_leaf) 178 = .ok (.iconst 1, 1) := by decide +kernel
theorem d_M_leaf_179 : decode (xC k_M_leaf) 179 = .ok (.goto 4, 3) := by decide +kernel
theorem d_M_leaf_182 : decode (xC k_M_leaf) 182 = .ok (.iconst 0, 1) := by decide +kernel
theorem d_M_leaf_183 : decode (xC k_M_leaf) 183 = .ok (.ireturn, 1) := by decide +kernel
theorem d_M_work_0 : decode (xC k_M_work) 0 = .ok (.aload_n 0, 1) := by decide +kernel
theorem d_M_work_1 : decode (xC k_M_work) 1 = .ok (.getfield 64, 3) := by decide +kernel
theorem d_M_work_4 : decode (xC k_M_work) 4 = .ok (.iload_n 1, 1) := by decide +kernel
theorem d_M_work_5 : decode (xC k_M_work) 5 = .ok (.iaload, 1) := by decide +kernel
theorem d_M_work_6 : decode (xC k_M_work) 6 = .ok (.istore_n 3, 1) := by decide +kernel
theorem d_M_work_7 : decode (xC k_M_work) 7 = .ok (.aload_n 0, 1) := by decide +kernel
theorem d_M_work_8 : decode (xC k_M_work) 8 = .ok (.getfield 19, 3) := by decide +kernel
theorem d_M_work_11 : decode (xC k_M_work) 11 = .ok (.iload_n 3, 1) := by decide +kernel
theorem d_M_work_12 : decode (xC k_M_work) 12 = .ok (.iaload, 1) := by decide +kernel
theorem d_M_work_13 : decode (xC k_M_work) 13 = .ok (.iconst 1, 1) := by decide +kernel
theorem d_M_work_14 : decode (xC k_M_work) 14 = .ok (.isub, 1) := by decide +kernel
theorem d_M_work_15 : decode (xC k_M_work) 15 = .ok (.istore 4, 2) := by decide +kernel
theorem d_M_work_17 : decode (xC k_M_work) 17 = .ok (.iload 4, 2) := by decide +kernel
theorem d_M_work_19 : decode (xC k_M_work) 19 = .ok (.ifCond .lt 179, 3) := by decide +kernel
theorem d_M_work_22 : decode (xC k_M_work) 22 = .ok (.sipush 160, 3) := by decide +kernel
theorem d_M_work_25 : decode (xC k_M_work) 25 = .ok (.iload_n 3, 1) := by decide +kernel
theorem d_M_work_26 : decode (xC k_M_work) 26 = .ok (.imul, 1) := by decide +kernel
theorem d_M_work_27 : decode (xC k_M_work) 27 = .ok (.iload 4, 2) := by decide +kernel
theorem d_M_work_29 : decode (xC k_M_work) 29 = .ok (.iadd, 1) := by decide +kernel
theorem d_M_work_30 : decode (xC k_M_work) 30 = .ok (.istore 5, 2) := by decide +kernel
theorem d_M_work_32 : decode (xC k_M_work) 32 = .ok (.aload_n 0, 1) := by decide +kernel
theorem d_M_work_33 : decode (xC k_M_work) 33 = .ok (.getfield 22, 3) := by decide +kernel
theorem d_M_work_36 : decode (xC k_M_work) 36 = .ok (.iload 5, 2) := by decide +kernel
theorem d_M_work_38 : decode (xC k_M_work) 38 = .ok (.iaload, 1) := by decide +kernel
theorem d_M_work_39 : decode (xC k_M_work) 39 = .ok (.iconst 1, 1) := by decide +kernel
theorem d_M_work_40 : decode (xC k_M_work) 40 = .ok (.if_icmp .ne 7, 3) := by decide +kernel
theorem d_M_work_43 : decode (xC k_M_work) 43 = .ok (.iconst 1, 1) := by decide +kernel
theorem d_M_work_44 : decode (xC k_M_work) 44 = .ok (.goto 4, 3) := by decide +kernel
theorem d_M_work_47 : decode (xC k_M_work) 47 = .ok (.iconst 0, 1) := by decide +kernel
theorem d_M_work_48 : decode (xC k_M_work) 48 = .ok (.istore 6, 2) := by decide +kernel
theorem d_M_work_50 : decode (xC k_M_work) 50 = .ok (.aload_n 0, 1) := by decide +kernel
theorem d_M_work_51 : decode (xC k_M_work) 51 = .ok (.getfield 22, 3) := by decide +kernel
theorem d_M_work_54 : decode (xC k_M_work) 54 = .ok (.iload 5, 2) := by decide +kernel
theorem d_M_work_56 : decode (xC k_M_work) 56 = .ok (.iaload, 1) := by decide +kernel
theorem d_M_work_57 : decode (xC k_M_work) 57 = .ok (.ifCond .ne 13, 3) := by decide +kernel
theorem d_M_work_60 : decode (xC k_M_work) 60 = .ok (.aload_n 0, 1) := by decide +kernel
theorem d_M_work_61 : decode (xC k_M_work) 61 = .ok (.iload_n 1, 1) := by decide +kernel
theorem d_M_work_62 : decode (xC k_M_work) 62 = .ok (.iload 5, 2) := by decide +kernel
theorem d_M_work_64 : decode (xC k_M_work) 64 = .ok (.iload_n 2, 1) := by decide +kernel
theorem d_M_work_65 : decode (xC k_M_work) 65 = .ok (.invokevirtual 190, 3) := by decide +kernel
theorem d_M_work_68 : decode (xC k_M_work) 68 = .ok (.istore 6, 2) := by decide +kernel
theorem d_M_work_70 : decode (xC k_M_work) 70 = .ok (.aload_n 0, 1) := by decide +kernel
theorem d_M_work_71 : decode (xC k_M_work) 71 = .ok (.getfield 22, 3) := by decide +kernel
theorem d_M_work_74 : decode (xC k_M_work) 74 = .ok (.iload 5, 2) := by decide +kernel
theorem d_M_work_76 : decode (xC k_M_work) 76 = .ok (.iaload, 1) := by decide +kernel
theorem d_M_work_77 : decode (xC k_M_work) 77 = .ok (.ifCond .ne 7, 3) := by decide +kernel
theorem d_M_work_80 : decode (xC k_M_work) 80 = .ok (.iconst 1, 1) := by decide +kernel
theorem d_M_work_81 : decode (xC k_M_work) 81 = .ok (.goto 4, 3) := by decide +kernel
theorem d_M_work_84 : decode (xC k_M_work) 84 = .ok (.iconst 0, 1) := by decide +kernel
theorem d_M_work_85 : decode (xC k_M_work) 85 = .ok (.istore 7, 2) := by decide +kernel
theorem d_M_work_87 : decode (xC k_M_work) 87 = .ok (.iload 4, 2) := by decide +kernel
theorem d_M_work_89 : decode (xC k_M_work) 89 = .ok (.iconst 1, 1) := by decide +kernel
theorem d_M_work_90 : decode (xC k_M_work) 90 = .ok (.iadd, 1) := by decide +kernel
theorem d_M_work_91 : decode (xC k_M_work) 91 = .ok (.istore 8, 2) := by decide +kernel
theorem d_M_work_93 : decode (xC k_M_work) 93 = .ok (.iload 8, 2) := by decide +kernel
theorem d_M_work_95 : decode (xC k_M_work) 95 = .ok (.aload_n 0, 1) := by decide +kernel
theorem d_M_work_96 : decode (xC k_M_work) 96 = .ok (.getfield 19, 3) := by decide +kernel
theorem d_M_work_99 : decode (xC k_M_work) 99 = .ok (.iload_n 3, 1) := by decide +kernel
theorem d_M_work_100 : decode (xC k_M_work) 100 = .ok (.iaload, 1) := by decide +kernel
theorem d_M_work_101 : decode (xC k_M_work) 101 = .ok (.if_icmp .ge 56, 3) := by decide +kernel
theorem d_M_work_104 : decode (xC k_M_work) 104 = .ok (.iload 7, 2) := by decide +kernel
theorem d_M_work_106 : decode (xC k_M_work) 106 = .ok (.ifCond .ne 51, 3) := by decide +kernel
theorem d_M_work_109 : decode (xC k_M_work) 109 = .ok (.aload_n 0, 1) := by decide +kernel
theorem d_M_work_110 : decode (xC k_M_work) 110 = .ok (.getfield 25, 3) := by decide +kernel
theorem d_M_work_113 : decode (xC k_M_work) 113 = .ok (.sipush 160, 3) := by decide +kernel
theorem d_M_work_116 : decode (xC k_M_work) 116 = .ok (.iload_n 3, 1) := by decide +kernel
theorem d_M_work_117 : decode (xC k_M_work) 117 = .ok (.imul, 1) := by decide +kernel
theorem d_M_work_118 : decode (xC k_M_work) 118 = .ok (.iload 8, 2) := by decide +kernel
theorem d_M_work_120 : decode (xC k_M_work) 120 = .ok (.iadd, 1) := by decide +kernel
theorem d_M_work_121 : decode (xC k_M_work) 121 = .ok (.iaload, 1) := by decide +kernel
theorem d_M_work_122 : decode (xC k_M_work) 122 = .ok (.iload 4, 2) := by decide +kernel
theorem d_M_work_124 : decode (xC k_M_work) 124 = .ok (.if_icmp .ne 27, 3) := by decide +kernel
theorem d_M_work_127 : decode (xC k_M_work) 127 = .ok (.aload_n 0, 1) := by decide +kernel
theorem d_M_work_128 : decode (xC k_M_work) 128 = .ok (.getfield 40, 3) := by decide +kernel
theorem d_M_work_131 : decode (xC k_M_work) 131 = .ok (.iload 8, 2) := by decide +kernel
theorem d_M_work_133 : decode (xC k_M_work) 133 = .ok (.iaload, 1) := by decide +kernel
theorem d_M_work_134 : decode (xC k_M_work) 134 = .ok (.iload 6, 2) := by decide +kernel
theorem d_M_work_136 : decode (xC k_M_work) 136 = .ok (.if_icmp .eq 15, 3) := by decide +kernel
theorem d_M_work_139 : decode (xC k_M_work) 139 = .ok (.aload_n 0, 1) := by decide +kernel
theorem d_M_work_140 : decode (xC k_M_work) 140 = .ok (.getfield 40, 3) := by decide +kernel
theorem d_M_work_143 : decode (xC k_M_work) 143 = .ok (.iload 8, 2) := by decide +kernel
theorem d_M_work_145 : decode (xC k_M_work) 145 = .ok (.iaload, 1) := by decide +kernel
theorem d_M_work_146 : decode (xC k_M_work) 146 = .ok (.istore 6, 2) := by decide +kernel
theorem d_M_work_148 : decode (xC k_M_work) 148 = .ok (.iconst 1, 1) := by decide +kernel
theorem d_M_work_149 : decode (xC k_M_work) 149 = .ok (.istore 7, 2) := by decide +kernel
theorem d_M_work_151 : decode (xC k_M_work) 151 = .ok (.iinc 8 1, 3) := by decide +kernel
theorem d_M_work_154 : decode (xC k_M_work) 154 = .ok (.goto (-61), 3) := by decide +kernel
theorem d_M_work_157 : decode (xC k_M_work) 157 = .ok (.aload_n 0, 1) := by decide +kernel
theorem d_M_work_158 : decode (xC k_M_work) 158 = .ok (.getfield 40, 3) := by decide +kernel
theorem d_M_work_161 : decode (xC k_M_work) 161 = .ok (.iload 4, 2) := by decide +kernel
theorem d_M_work_163 : decode (xC k_M_work) 163 = .ok (.iload 6, 2) := by decide +kernel
theorem d_M_work_165 : decode (xC k_M_work) 165 = .ok (.iconst 2, 1) := by decide +kernel
theorem d_M_work_166 : decode (xC k_M_work) 166 = .ok (.if_icmp .eq 23, 3) := by decide +kernel
theorem d_M_work_169 : decode (xC k_M_work) 169 = .ok (.aload_n 0, 1) := by decide +kernel
theorem d_M_work_170 : decode (xC k_M_work) 170 = .ok (.getfield 28, 3) := by decide +kernel
theorem d_M_work_173 : decode (xC k_M_work) 173 = .ok (.iload 5, 2) := by decide +kernel
theorem d_M_work_175 : decode (xC k_M_work) 175 = .ok (.iaload, 1) := by decide +kernel
theorem d_M_work_176 : decode (xC k_M_work) 176 = .ok (.iconst 2, 1) := by decide +kernel
theorem d_M_work_177 : decode (xC k_M_work) 177 = .ok (.irem, 1) := by decide +kernel
theorem d_M_work_178 : decode (xC k_M_work) 178 = .ok (.iconst 1, 1) := by decide +kernel
theorem d_M_work_179 : decode (xC k_M_work) 179 = .ok (.if_icmp .ne 10, 3) := by decide +kernel
theorem d_M_work_182 : decode (xC k_M_work) 182 = .ok (.iconst 1, 1) := by decide +kernel
theorem d_M_work_183 : decode (xC k_M_work) 183 = .ok (.iload 6, 2) := by decide +kernel
theorem d_M_work_185 : decode (xC k_M_work) 185 = .ok (.isub, 1) := by decide +kernel
theorem d_M_work_186 : decode (xC k_M_work) 186 = .ok (.goto 5, 3) := by decide +kernel
theorem d_M_work_189 : decode (xC k_M_work) 189 = .ok (.iload 6, 2) := by decide +kernel
theorem d_M_work_191 : decode (xC k_M_work) 191 = .ok (.iastore, 1) := by decide +kernel
theorem d_M_work_192 : decode (xC k_M_work) 192 = .ok (.iinc 4 (-1), 3) := by decide +kernel
theorem d_M_work_195 : decode (xC k_M_work) 195 = .ok (.goto (-178), 3) := by decide +kernel
theorem d_M_work_198 : decode (xC k_M_work) 198 = .ok (.return_, 1) := by decide +kernel
