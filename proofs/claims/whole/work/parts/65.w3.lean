/-! rows of the law -/
theorem d_u_unit_0 : decode method_3_code 0 = .ok (.aload_n 2, 1) := by decide +kernel
theorem d_u_unit_1 : decode method_3_code 1 = .ok (.iconst 0, 1) := by decide +kernel
theorem d_u_unit_2 : decode method_3_code 2 = .ok (.aload_n 0, 1) := by decide +kernel
theorem d_u_unit_3 : decode method_3_code 3 = .ok (.iload_n 1, 1) := by decide +kernel
theorem d_u_unit_4 : decode method_3_code 4 = .ok (.invokevirtual 7, 3) := by decide +kernel
theorem d_u_unit_7 : decode method_3_code 7 = .ok (.i2l, 1) := by decide +kernel
theorem d_u_unit_8 : decode method_3_code 8 = .ok (.lastore, 1) := by decide +kernel
theorem d_u_unit_9 : decode method_3_code 9 = .ok (.goto 9, 3) := by decide +kernel
theorem d_u_unit_12 : decode method_3_code 12 = .ok (.astore_n 3, 1) := by decide +kernel
theorem d_u_unit_13 : decode method_3_code 13 = .ok (.iconst 1, 1) := by decide +kernel
theorem d_u_unit_14 : decode method_3_code 14 = .ok (.ireturn, 1) := by decide +kernel
theorem d_u_unit_15 : decode method_3_code 15 = .ok (.astore_n 3, 1) := by decide +kernel
theorem d_u_unit_16 : decode method_3_code 16 = .ok (.iconst 2, 1) := by decide +kernel
theorem d_u_unit_17 : decode method_3_code 17 = .ok (.ireturn, 1) := by decide +kernel
theorem d_u_unit_18 : decode method_3_code 18 = .ok (.iconst 0, 1) := by decide +kernel
theorem d_u_unit_19 : decode method_3_code 19 = .ok (.ireturn, 1) := by decide +kernel
theorem d_u_read_0 : decode method_4_code 0 = .ok (.aload_n 1, 1) := by decide +kernel
theorem d_u_read_1 : decode method_4_code 1 = .ok (.iconst 0, 1) := by decide +kernel
theorem d_u_read_2 : decode method_4_code 2 = .ok (.aload_n 0, 1) := by decide +kernel
theorem d_u_read_3 : decode method_4_code 3 = .ok (.invokevirtual 17, 3) := by decide +kernel
theorem d_u_read_6 : decode method_4_code 6 = .ok (.i2l, 1) := by decide +kernel
theorem d_u_read_7 : decode method_4_code 7 = .ok (.lastore, 1) := by decide +kernel
theorem d_u_read_8 : decode method_4_code 8 = .ok (.goto 6, 3) := by decide +kernel
theorem d_u_read_11 : decode method_4_code 11 = .ok (.astore_n 2, 1) := by decide +kernel
theorem d_u_read_12 : decode method_4_code 12 = .ok (.iconst 1, 1) := by decide +kernel
theorem d_u_read_13 : decode method_4_code 13 = .ok (.ireturn, 1) := by decide +kernel
theorem d_u_read_14 : decode method_4_code 14 = .ok (.iconst 0, 1) := by decide +kernel
theorem d_u_read_15 : decode method_4_code 15 = .ok (.ireturn, 1) := by decide +kernel
theorem d_u_terms_0 : decode method_5_code 0 = .ok (.aload_n 2, 1) := by decide +kernel
theorem d_u_terms_1 : decode method_5_code 1 = .ok (.iconst 0, 1) := by decide +kernel
theorem d_u_terms_2 : decode method_5_code 2 = .ok (.aload_n 0, 1) := by decide +kernel
theorem d_u_terms_3 : decode method_5_code 3 = .ok (.iload_n 1, 1) := by decide +kernel
theorem d_u_terms_4 : decode method_5_code 4 = .ok (.invokevirtual 21, 3) := by decide +kernel
theorem d_u_terms_7 : decode method_5_code 7 = .ok (.i2l, 1) := by decide +kernel
theorem d_u_terms_8 : decode method_5_code 8 = .ok (.lastore, 1) := by decide +kernel
theorem d_u_terms_9 : decode method_5_code 9 = .ok (.goto 6, 3) := by decide +kernel
theorem d_u_terms_12 : decode method_5_code 12 = .ok (.astore_n 3, 1) := by decide +kernel
theorem d_u_terms_13 : decode method_5_code 13 = .ok (.iconst 1, 1) := by decide +kernel
theorem d_u_terms_14 : decode method_5_code 14 = .ok (.ireturn, 1) := by decide +kernel
theorem d_u_terms_15 : decode method_5_code 15 = .ok (.iconst 0, 1) := by decide +kernel
theorem d_u_terms_16 : decode method_5_code 16 = .ok (.ireturn, 1) := by decide +kernel
theorem d_u_written_0 : decode method_6_code 0 = .ok (.aload_n 3, 1) := by decide +kernel
theorem d_u_written_1 : decode method_6_code 1 = .ok (.iconst 0, 1) := by decide +kernel
theorem d_u_written_2 : decode method_6_code 2 = .ok (.aload_n 0, 1) := by decide +kernel
theorem d_u_written_3 : decode method_6_code 3 = .ok (.iload_n 1, 1) := by decide +kernel
theorem d_u_written_4 : decode method_6_code 4 = .ok (.iload_n 2, 1) := by decide +kernel
theorem d_u_written_5 : decode method_6_code 5 = .ok (.invokevirtual 26, 3) := by decide +kernel
theorem d_u_written_8 : decode method_6_code 8 = .ok (.i2l, 1) := by decide +kernel
theorem d_u_written_9 : decode method_6_code 9 = .ok (.lastore, 1) := by decide +kernel
theorem d_u_written_10 : decode method_6_code 10 = .ok (.goto 7, 3) := by decide +kernel
theorem d_u_written_13 : decode method_6_code 13 = .ok (.astore 4, 2) := by decide +kernel
theorem d_u_written_15 : decode method_6_code 15 = .ok (.iconst 1, 1) := by decide +kernel
theorem d_u_written_16 : decode method_6_code 16 = .ok (.ireturn, 1) := by decide +kernel
theorem d_u_written_17 : decode method_6_code 17 = .ok (.iconst 0, 1) := by decide +kernel
theorem d_u_written_18 : decode method_6_code 18 = .ok (.ireturn, 1) := by decide +kernel
theorem d_u_input_0 : decode method_7_code 0 = .ok (.aload 4, 2) := by decide +kernel
theorem d_u_input_2 : decode method_7_code 2 = .ok (.iconst 0, 1) := by decide +kernel
theorem d_u_input_3 : decode method_7_code 3 = .ok (.aload_n 0, 1) := by decide +kernel
theorem d_u_input_4 : decode method_7_code 4 = .ok (.iload_n 1, 1) := by decide +kernel
theorem d_u_input_5 : decode method_7_code 5 = .ok (.iload_n 2, 1) := by decide +kernel
theorem d_u_input_6 : decode method_7_code 6 = .ok (.iload_n 3, 1) := by decide +kernel
theorem d_u_input_7 : decode method_7_code 7 = .ok (.invokevirtual 30, 3) := by decide +kernel
theorem d_u_input_10 : decode method_7_code 10 = .ok (.i2l, 1) := by decide +kernel
theorem d_u_input_11 : decode method_7_code 11 = .ok (.lastore, 1) := by decide +kernel
theorem d_u_input_12 : decode method_7_code 12 = .ok (.goto 15, 3) := by decide +kernel
theorem d_u_input_15 : decode method_7_code 15 = .ok (.astore 5, 2) := by decide +kernel
theorem d_u_input_17 : decode method_7_code 17 = .ok (.iconst 1, 1) := by decide +kernel
theorem d_u_input_18 : decode method_7_code 18 = .ok (.ireturn, 1) := by decide +kernel
theorem d_u_input_19 : decode method_7_code 19 = .ok (.astore 5, 2) := by decide +kernel
theorem d_u_input_21 : decode method_7_code 21 = .ok (.iconst 2, 1) := by decide +kernel
theorem d_u_input_22 : decode method_7_code 22 = .ok (.ireturn, 1) := by decide +kernel
theorem d_u_input_23 : decode method_7_code 23 = .ok (.astore 5, 2) := by decide +kernel
theorem d_u_input_25 : decode method_7_code 25 = .ok (.iconst 3, 1) := by decide +kernel
theorem d_u_input_26 : decode method_7_code 26 = .ok (.ireturn, 1) := by decide +kernel
theorem d_u_input_27 : decode method_7_code 27 = .ok (.iconst 0, 1) := by decide +kernel
theorem d_u_input_28 : decode method_7_code 28 = .ok (.ireturn, 1) := by decide +kernel
theorem d_u_fails_0 : decode method_8_code 0 = .ok (.aload_n 0, 1) := by decide +kernel
theorem d_u_fails_1 : decode method_8_code 1 = .ok (.iload_n 1, 1) := by decide +kernel
theorem d_u_fails_2 : decode method_8_code 2 = .ok (.iload_n 2, 1) := by decide +kernel
theorem d_u_fails_3 : decode method_8_code 3 = .ok (.iload_n 3, 1) := by decide +kernel
theorem d_u_fails_4 : decode method_8_code 4 = .ok (.invokevirtual 34, 3) := by decide +kernel
theorem d_u_fails_7 : decode method_8_code 7 = .ok (.goto 11, 3) := by decide +kernel
theorem d_u_fails_10 : decode method_8_code 10 = .ok (.astore 4, 2) := by decide +kernel
theorem d_u_fails_12 : decode method_8_code 12 = .ok (.iconst 1, 1) := by decide +kernel
theorem d_u_fails_13 : decode method_8_code 13 = .ok (.ireturn, 1) := by decide +kernel
theorem d_u_fails_14 : decode method_8_code 14 = .ok (.astore 4, 2) := by decide +kernel
theorem d_u_fails_16 : decode method_8_code 16 = .ok (.iconst 2, 1) := by decide +kernel
theorem d_u_fails_17 : decode method_8_code 17 = .ok (.ireturn, 1) := by decide +kernel
theorem d_u_fails_18 : decode method_8_code 18 = .ok (.iconst 0, 1) := by decide +kernel
theorem d_u_fails_19 : decode method_8_code 19 = .ok (.ireturn, 1) := by decide +kernel
theorem d_u_loan_0 : decode method_9_code 0 = .ok (.aload 5, 2) := by decide +kernel
theorem d_u_loan_2 : decode method_9_code 2 = .ok (.iconst 0, 1) := by decide +kernel
theorem d_u_loan_3 : decode method_9_code 3 = .ok (.aload_n 0, 1) := by decide +kernel
theorem d_u_loan_4 : decode method_9_code 4 = .ok (.iload_n 1, 1) := by decide +kernel
theorem d_u_loan_5 : decode method_9_code 5 = .ok (.iload_n 2, 1) := by decide +kernel
theorem d_u_loan_6 : decode method_9_code 6 = .ok (.iload_n 3, 1) := by decide +kernel
theorem d_u_loan_7 : decode method_9_code 7 = .ok (.iload 4, 2) := by decide +kernel
theorem d_u_loan_9 : decode method_9_code 9 = .ok (.invokevirtual 38, 3) := by decide +kernel
theorem d_u_loan_12 : decode method_9_code 12 = .ok (.i2l, 1) := by decide +kernel
theorem d_u_loan_13 : decode method_9_code 13 = .ok (.lastore, 1) := by decide +kernel
theorem d_u_loan_14 : decode method_9_code 14 = .ok (.goto 15, 3) := by decide +kernel
theorem d_u_loan_17 : decode method_9_code 17 = .ok (.astore 6, 2) := by decide +kernel
theorem d_u_loan_19 : decode method_9_code 19 = .ok (.iconst 1, 1) := by decide +kernel
theorem d_u_loan_20 : decode method_9_code 20 = .ok (.ireturn, 1) := by decide +kernel
theorem d_u_loan_21 : decode method_9_code 21 = .ok (.astore 6, 2) := by decide +kernel
theorem d_u_loan_23 : decode method_9_code 23 = .ok (.iconst 2, 1) := by decide +kernel
theorem d_u_loan_24 : decode method_9_code 24 = .ok (.ireturn, 1) := by decide +kernel
theorem d_u_loan_25 : decode method_9_code 25 = .ok (.astore 6, 2) := by decide +kernel
theorem d_u_loan_27 : decode method_9_code 27 = .ok (.iconst 3, 1) := by decide +kernel
theorem d_u_loan_28 : decode method_9_code 28 = .ok (.ireturn, 1) := by decide +kernel
theorem d_u_loan_29 : decode method_9_code 29 = .ok (.iconst 0, 1) := by decide +kernel
theorem d_u_loan_30 : decode method_9_code 30 = .ok (.ireturn, 1) := by decide +kernel
theorem d_u_shield_0 : decode method_10_code 0 = .ok (.aload_n 3, 1) := by decide +kernel
theorem d_u_shield_1 : decode method_10_code 1 = .ok (.iconst 0, 1) := by decide +kernel
theorem d_u_shield_2 : decode method_10_code 2 = .ok (.aload_n 0, 1) := by decide +kernel
theorem d_u_shield_3 : decode method_10_code 3 = .ok (.iload_n 1, 1) := by decide +kernel
theorem d_u_shield_4 : decode method_10_code 4 = .ok (.iload_n 2, 1) := by decide +kernel
theorem d_u_shield_5 : decode method_10_code 5 = .ok (.invokevirtual 42, 3) := by decide +kernel
theorem d_u_shield_8 : decode method_10_code 8 = .ok (.ifCond .eq 7, 3) := by decide +kernel
theorem d_u_shield_11 : decode method_10_code 11 = .ok (.lconst 1, 1) := by decide +kernel
theorem d_u_shield_12 : decode method_10_code 12 = .ok (.goto 4, 3) := by decide +kernel
theorem d_u_shield_15 : decode method_10_code 15 = .ok (.lconst 0, 1) := by decide +kernel
theorem d_u_shield_16 : decode method_10_code 16 = .ok (.lastore, 1) := by decide +kernel
theorem d_u_shield_17 : decode method_10_code 17 = .ok (.goto 7, 3) := by decide +kernel
theorem d_u_shield_20 : decode method_10_code 20 = .ok (.astore 4, 2) := by decide +kernel
theorem d_u_shield_22 : decode method_10_code 22 = .ok (.iconst 1, 1) := by decide +kernel
theorem d_u_shield_23 : decode method_10_code 23 = .ok (.ireturn, 1) := by decide +kernel
theorem d_u_shield_24 : decode method_10_code 24 = .ok (.iconst 0, 1) := by decide +kernel
theorem d_u_shield_25 : decode method_10_code 25 = .ok (.ireturn, 1) := by decide +kernel
theorem d_u_ask_0 : decode method_11_code 0 = .ok (.aload_n 3, 1) := by decide +kernel
theorem d_u_ask_1 : decode method_11_code 1 = .ok (.iconst 0, 1) := by decide +kernel
theorem d_u_ask_2 : decode method_11_code 2 = .ok (.aload_n 0, 1) := by decide +kernel
theorem d_u_ask_3 : decode method_11_code 3 = .ok (.iload_n 1, 1) := by decide +kernel
theorem d_u_ask_4 : decode method_11_code 4 = .ok (.iload_n 2, 1) := by decide +kernel
theorem d_u_ask_5 : decode method_11_code 5 = .ok (.invokevirtual 46, 3) := by decide +kernel
theorem d_u_ask_8 : decode method_11_code 8 = .ok (.i2l, 1) := by decide +kernel
theorem d_u_ask_9 : decode method_11_code 9 = .ok (.lastore, 1) := by decide +kernel
theorem d_u_ask_10 : decode method_11_code 10 = .ok (.goto 11, 3) := by decide +kernel
theorem d_u_ask_13 : decode method_11_code 13 = .ok (.astore 4, 2) := by decide +kernel
theorem d_u_ask_15 : decode method_11_code 15 = .ok (.iconst 1, 1) := by decide +kernel
theorem d_u_ask_16 : decode method_11_code 16 = .ok (.ireturn, 1) := by decide +kernel
theorem d_u_ask_17 : decode method_11_code 17 = .ok (.astore 4, 2) := by decide +kernel
theorem d_u_ask_19 : decode method_11_code 19 = .ok (.iconst 2, 1) := by decide +kernel
theorem d_u_ask_20 : decode method_11_code 20 = .ok (.ireturn, 1) := by decide +kernel
theorem d_u_ask_21 : decode method_11_code 21 = .ok (.iconst 0, 1) := by decide +kernel
theorem d_u_ask_22 : decode method_11_code 22 = .ok (.ireturn, 1) := by decide +kernel
theorem d_u_open_0 : decode method_12_code 0 = .ok (.aload 4, 2) := by decide +kernel
theorem d_u_open_2 : decode method_12_code 2 = .ok (.iconst 0, 1) := by decide +kernel
theorem d_u_open_3 : decode method_12_code 3 = .ok (.aload_n 0, 1) := by decide +kernel
theorem d_u_open_4 : decode method_12_code 4 = .ok (.iload_n 1, 1) := by decide +kernel
theorem d_u_open_5 : decode method_12_code 5 = .ok (.iload_n 2, 1) := by decide +kernel
theorem d_u_open_6 : decode method_12_code 6 = .ok (.iload_n 3, 1) := by decide +kernel
theorem d_u_open_7 : decode method_12_code 7 = .ok (.invokevirtual 49, 3) := by decide +kernel
theorem d_u_open_10 : decode method_12_code 10 = .ok (.i2l, 1) := by decide +kernel
theorem d_u_open_11 : decode method_12_code 11 = .ok (.lastore, 1) := by decide +kernel
theorem d_u_open_12 : decode method_12_code 12 = .ok (.goto 11, 3) := by decide +kernel
theorem d_u_open_15 : decode method_12_code 15 = .ok (.astore 5, 2) := by decide +kernel
theorem d_u_open_17 : decode method_12_code 17 = .ok (.iconst 1, 1) := by decide +kernel
theorem d_u_open_18 : decode method_12_code 18 = .ok (.ireturn, 1) := by decide +kernel
theorem d_u_open_19 : decode method_12_code 19 = .ok (.astore 5, 2) := by decide +kernel
theorem d_u_open_21 : decode method_12_code 21 = .ok (.iconst 2, 1) := by decide +kernel
theorem d_u_open_22 : decode method_12_code 22 = .ok (.ireturn, 1) := by decide +kernel
theorem d_u_open_23 : decode method_12_code 23 = .ok (.iconst 0, 1) := by decide +kernel
theorem d_u_open_24 : decode method_12_code 24 = .ok (.ireturn, 1) := by decide +kernel
theorem d_u_told_0 : decode method_13_code 0 = .ok (.aload 4, 2) := by decide +kernel
theorem d_u_told_2 : decode method_13_code 2 = .ok (.iconst 0, 1) := by decide +kernel
theorem d_u_told_3 : decode method_13_code 3 = .ok (.aload_n 0, 1) := by decide +kernel
theorem d_u_told_4 : decode method_13_code 4 = .ok (.iload_n 1, 1) := by decide +kernel
theorem d_u_told_5 : decode method_13_code 5 = .ok (.iload_n 2, 1) := by decide +kernel
theorem d_u_told_6 : decode method_13_code 6 = .ok (.iload_n 3, 1) := by decide +kernel
theorem d_u_told_7 : decode method_13_code 7 = .ok (.invokevirtual 52, 3) := by decide +kernel
theorem d_u_told_10 : decode method_13_code 10 = .ok (.i2l, 1) := by decide +kernel
theorem d_u_told_11 : decode method_13_code 11 = .ok (.lastore, 1) := by decide +kernel
theorem d_u_told_12 : decode method_13_code 12 = .ok (.goto 7, 3) := by decide +kernel
theorem d_u_told_15 : decode method_13_code 15 = .ok (.astore 5, 2) := by decide +kernel
theorem d_u_told_17 : decode method_13_code 17 = .ok (.iconst 1, 1) := by decide +kernel
theorem d_u_told_18 : decode method_13_code 18 = .ok (.ireturn, 1) := by decide +kernel
theorem d_u_told_19 : decode method_13_code 19 = .ok (.iconst 0, 1) := by decide +kernel
theorem d_u_told_20 : decode method_13_code 20 = .ok (.ireturn, 1) := by decide +kernel
theorem d_u_extend_0 : decode method_14_code 0 = .ok (.aload 4, 2) := by decide +kernel
theorem d_u_extend_2 : decode method_14_code 2 = .ok (.iconst 0, 1) := by decide +kernel
theorem d_u_extend_3 : decode method_14_code 3 = .ok (.aload_n 0, 1) := by decide +kernel
theorem d_u_extend_4 : decode method_14_code 4 = .ok (.iload_n 1, 1) := by decide +kernel
theorem d_u_extend_5 : decode method_14_code 5 = .ok (.iload_n 2, 1) := by decide +kernel
theorem d_u_extend_6 : decode method_14_code 6 = .ok (.iload_n 3, 1) := by decide +kernel
theorem d_u_extend_7 : decode method_14_code 7 = .ok (.invokevirtual 55, 3) := by decide +kernel
theorem d_u_extend_10 : decode method_14_code 10 = .ok (.i2l, 1) := by decide +kernel
theorem d_u_extend_11 : decode method_14_code 11 = .ok (.lastore, 1) := by decide +kernel
theorem d_u_extend_12 : decode method_14_code 12 = .ok (.goto 11, 3) := by decide +kernel
theorem d_u_extend_15 : decode method_14_code 15 = .ok (.astore 5, 2) := by decide +kernel
theorem d_u_extend_17 : decode method_14_code 17 = .ok (.iconst 1, 1) := by decide +kernel
theorem d_u_extend_18 : decode method_14_code 18 = .ok (.ireturn, 1) := by decide +kernel
theorem d_u_extend_19 : decode method_14_code 19 = .ok (.astore 5, 2) := by decide +kernel
theorem d_u_extend_21 : decode method_14_code 21 = .ok (.iconst 2, 1) := by decide +kernel
theorem d_u_extend_22 : decode method_14_code 22 = .ok (.ireturn, 1) := by decide +kernel
theorem d_u_extend_23 : decode method_14_code 23 = .ok (.iconst 0, 1) := by decide +kernel
theorem d_u_extend_24 : decode method_14_code 24 = .ok (.ireturn, 1) := by decide +kernel
theorem d_u_request_0 : decode method_15_code 0 = .ok (.aload 4, 2) := by decide +kernel
theorem d_u_request_2 : decode method_15_code 2 = .ok (.iconst 0, 1) := by decide +kernel
theorem d_u_request_3 : decode method_15_code 3 = .ok (.aload_n 0, 1) := by decide +kernel
theorem d_u_request_4 : decode method_15_code 4 = .ok (.iload_n 1, 1) := by decide +kernel
theorem d_u_request_5 : decode method_15_code 5 = .ok (.iload_n 2, 1) := by decide +kernel
theorem d_u_request_6 : decode method_15_code 6 = .ok (.iload_n 3, 1) := by decide +kernel
theorem d_u_request_7 : decode method_15_code 7 = .ok (.invokevirtual 58, 3) := by decide +kernel
theorem d_u_request_10 : decode method_15_code 10 = .ok (.i2l, 1) := by decide +kernel
theorem d_u_request_11 : decode method_15_code 11 = .ok (.lastore, 1) := by decide +kernel
theorem d_u_request_12 : decode method_15_code 12 = .ok (.goto 15, 3) := by decide +kernel
theorem d_u_request_15 : decode method_15_code 15 = .ok (.astore 5, 2) := by decide +kernel
theorem d_u_request_17 : decode method_15_code 17 = .ok (.iconst 1, 1) := by decide +kernel
theorem d_u_request_18 : decode method_15_code 18 = .ok (.ireturn, 1) := by decide +kernel
theorem d_u_request_19 : decode method_15_code 19 = .ok (.astore 5, 2) := by decide +kernel
theorem d_u_request_21 : decode method_15_code 21 = .ok (.iconst 2, 1) := by decide +kernel
theorem d_u_request_22 : decode method_15_code 22 = .ok (.ireturn, 1) := by decide +kernel
theorem d_u_request_23 : decode method_15_code 23 = .ok (.astore 5, 2) := by decide +kernel
theorem d_u_request_25 : decode method_15_code 25 = .ok (.iconst 3, 1) := by decide +kernel
theorem d_u_request_26 : decode method_15_code 26 = .ok (.ireturn, 1) := by decide +kernel
theorem d_u_request_27 : decode method_15_code 27 = .ok (.iconst 0, 1) := by decide +kernel
theorem d_u_request_28 : decode method_15_code 28 = .ok (.ireturn, 1) := by decide +kernel
theorem d_u_clash_0 : decode method_16_code 0 = .ok (.aload_n 3, 1) := by decide +kernel
theorem d_u_clash_1 : decode method_16_code 1 = .ok (.iconst 0, 1) := by decide +kernel
theorem d_u_clash_2 : decode method_16_code 2 = .ok (.aload_n 0, 1) := by decide +kernel
theorem d_u_clash_3 : decode method_16_code 3 = .ok (.iload_n 1, 1) := by decide +kernel
theorem d_u_clash_4 : decode method_16_code 4 = .ok (.iload_n 2, 1) := by decide +kernel
theorem d_u_clash_5 : decode method_16_code 5 = .ok (.invokevirtual 61, 3) := by decide +kernel
theorem d_u_clash_8 : decode method_16_code 8 = .ok (.i2l, 1) := by decide +kernel
theorem d_u_clash_9 : decode method_16_code 9 = .ok (.lastore, 1) := by decide +kernel
theorem d_u_clash_10 : decode method_16_code 10 = .ok (.goto 7, 3) := by decide +kernel
theorem d_u_clash_13 : decode method_16_code 13 = .ok (.astore 4, 2) := by decide +kernel
theorem d_u_clash_15 : decode method_16_code 15 = .ok (.iconst 1, 1) := by decide +kernel
theorem d_u_clash_16 : decode method_16_code 16 = .ok (.ireturn, 1) := by decide +kernel
theorem d_u_clash_17 : decode method_16_code 17 = .ok (.iconst 0, 1) := by decide +kernel
theorem d_u_clash_18 : decode method_16_code 18 = .ok (.ireturn, 1) := by decide +kernel
theorem d_u_days_0 : decode method_17_code 0 = .ok (.aload_n 2, 1) := by decide +kernel
theorem d_u_days_1 : decode method_17_code 1 = .ok (.iconst 0, 1) := by decide +kernel
theorem d_u_days_2 : decode method_17_code 2 = .ok (.aload_n 0, 1) := by decide +kernel
theorem d_u_days_3 : decode method_17_code 3 = .ok (.iload_n 1, 1) := by decide +kernel
theorem d_u_days_4 : decode method_17_code 4 = .ok (.invokevirtual 64, 3) := by decide +kernel
theorem d_u_days_7 : decode method_17_code 7 = .ok (.i2l, 1) := by decide +kernel
theorem d_u_days_8 : decode method_17_code 8 = .ok (.lastore, 1) := by decide +kernel
theorem d_u_days_9 : decode method_17_code 9 = .ok (.goto 6, 3) := by decide +kernel
theorem d_u_days_12 : decode method_17_code 12 = .ok (.astore_n 3, 1) := by decide +kernel
theorem d_u_days_13 : decode method_17_code 13 = .ok (.iconst 1, 1) := by decide +kernel
theorem d_u_days_14 : decode method_17_code 14 = .ok (.ireturn, 1) := by decide +kernel
theorem d_u_days_15 : decode method_17_code 15 = .ok (.iconst 0, 1) := by decide +kernel
theorem d_u_days_16 : decode method_17_code 16 = .ok (.ireturn, 1) := by decide +kernel
theorem d_u_fee_0 : decode method_18_code 0 = .ok (.aload_n 2, 1) := by decide +kernel
theorem d_u_fee_1 : decode method_18_code 1 = .ok (.iconst 0, 1) := by decide +kernel
theorem d_u_fee_2 : decode method_18_code 2 = .ok (.aload_n 0, 1) := by decide +kernel
theorem d_u_fee_3 : decode method_18_code 3 = .ok (.iload_n 1, 1) := by decide +kernel
theorem d_u_fee_4 : decode method_18_code 4 = .ok (.invokevirtual 67, 3) := by decide +kernel
theorem d_u_fee_7 : decode method_18_code 7 = .ok (.i2l, 1) := by decide +kernel
theorem d_u_fee_8 : decode method_18_code 8 = .ok (.lastore, 1) := by decide +kernel
theorem d_u_fee_9 : decode method_18_code 9 = .ok (.goto 6, 3) := by decide +kernel
theorem d_u_fee_12 : decode method_18_code 12 = .ok (.astore_n 3, 1) := by decide +kernel
theorem d_u_fee_13 : decode method_18_code 13 = .ok (.iconst 1, 1) := by decide +kernel
theorem d_u_fee_14 : decode method_18_code 14 = .ok (.ireturn, 1) := by decide +kernel
theorem d_u_fee_15 : decode method_18_code 15 = .ok (.iconst 0, 1) := by decide +kernel
theorem d_u_fee_16 : decode method_18_code 16 = .ok (.ireturn, 1) := by decide +kernel
theorem d_u_letter_0 : decode method_19_code 0 = .ok (.aload_n 3, 1) := by decide +kernel
theorem d_u_letter_1 : decode method_19_code 1 = .ok (.iconst 0, 1) := by decide +kernel
theorem d_u_letter_2 : decode method_19_code 2 = .ok (.aload_n 0, 1) := by decide +kernel
theorem d_u_letter_3 : decode method_19_code 3 = .ok (.iload_n 1, 1) := by decide +kernel
theorem d_u_letter_4 : decode method_19_code 4 = .ok (.iload_n 2, 1) := by decide +kernel
theorem d_u_letter_5 : decode method_19_code 5 = .ok (.invokevirtual 70, 3) := by decide +kernel
theorem d_u_letter_8 : decode method_19_code 8 = .ok (.i2l, 1) := by decide +kernel
theorem d_u_letter_9 : decode method_19_code 9 = .ok (.lastore, 1) := by decide +kernel
theorem d_u_letter_10 : decode method_19_code 10 = .ok (.goto 7, 3) := by decide +kernel
theorem d_u_letter_13 : decode method_19_code 13 = .ok (.astore 4, 2) := by decide +kernel
theorem d_u_letter_15 : decode method_19_code 15 = .ok (.iconst 1, 1) := by decide +kernel
theorem d_u_letter_16 : decode method_19_code 16 = .ok (.ireturn, 1) := by decide +kernel
theorem d_u_letter_17 : decode method_19_code 17 = .ok (.iconst 0, 1) := by decide +kernel
theorem d_u_letter_18 : decode method_19_code 18 = .ok (.ireturn, 1) := by decide +kernel
theorem d_u_count_0 : decode method_20_code 0 = .ok (.aload_n 2, 1) := by decide +kernel
theorem d_u_count_1 : decode method_20_code 1 = .ok (.iconst 0, 1) := by decide +kernel
theorem d_u_count_2 : decode method_20_code 2 = .ok (.aload_n 0, 1) := by decide +kernel
theorem d_u_count_3 : decode method_20_code 3 = .ok (.iload_n 1, 1) := by decide +kernel
theorem d_u_count_4 : decode method_20_code 4 = .ok (.invokevirtual 73, 3) := by decide +kernel
theorem d_u_count_7 : decode method_20_code 7 = .ok (.i2l, 1) := by decide +kernel
theorem d_u_count_8 : decode method_20_code 8 = .ok (.lastore, 1) := by decide +kernel
theorem d_u_count_9 : decode method_20_code 9 = .ok (.goto 6, 3) := by decide +kernel
theorem d_u_count_12 : decode method_20_code 12 = .ok (.astore_n 3, 1) := by decide +kernel
theorem d_u_count_13 : decode method_20_code 13 = .ok (.iconst 1, 1) := by decide +kernel
theorem d_u_count_14 : decode method_20_code 14 = .ok (.ireturn, 1) := by decide +kernel
theorem d_u_count_15 : decode method_20_code 15 = .ok (.iconst 0, 1) := by decide +kernel
theorem d_u_count_16 : decode method_20_code 16 = .ok (.ireturn, 1) := by decide +kernel
theorem d_law_0 : decode code 0 = .ok (.new 8, 3) := by decide +kernel
theorem d_law_3 : decode code 3 = .ok (.dup, 1) := by decide +kernel
theorem d_law_4 : decode code 4 = .ok (.invokespecial 76, 3) := by decide +kernel
theorem d_law_7 : decode code 7 = .ok (.astore_n 1, 1) := by decide +kernel
theorem d_law_8 : decode code 8 = .ok (.new 77, 3) := by decide +kernel
theorem d_law_11 : decode code 11 = .ok (.dup, 1) := by decide +kernel
theorem d_law_12 : decode code 12 = .ok (.invokespecial 79, 3) := by decide +kernel
theorem d_law_15 : decode code 15 = .ok (.astore_n 2, 1) := by decide +kernel
theorem d_law_16 : decode code 16 = .ok (.iconst 1, 1) := by decide +kernel
theorem d_law_17 : decode code 17 = .ok (.newarray .long, 2) := by decide +kernel
theorem d_law_19 : decode code 19 = .ok (.astore_n 3, 1) := by decide +kernel
theorem d_law_20 : decode code 20 = .ok (.iconst 0, 1) := by decide +kernel
theorem d_law_21 : decode code 21 = .ok (.istore 4, 2) := by decide +kernel
theorem d_law_23 : decode code 23 = .ok (.iload 4, 2) := by decide +kernel
theorem d_law_25 : decode code 25 = .ok (.aload_n 0, 1) := by decide +kernel
theorem d_law_26 : decode code 26 = .ok (.arraylength, 1) := by decide +kernel
theorem d_law_27 : decode code 27 = .ok (.iconst 5, 1) := by decide +kernel
theorem d_law_28 : decode code 28 = .ok (.isub, 1) := by decide +kernel
theorem d_law_29 : decode code 29 = .ok (.if_icmp .gt 1340, 3) := by decide +kernel
theorem d_law_32 : decode code 32 = .ok (.aload_n 0, 1) := by decide +kernel
theorem d_law_33 : decode code 33 = .ok (.iload 4, 2) := by decide +kernel
theorem d_law_35 : decode code 35 = .ok (.iaload, 1) := by decide +kernel
theorem d_law_36 : decode code 36 = .ok (.bipush 31, 2) := by decide +kernel
theorem d_law_38 : decode code 38 = .ok (.iand, 1) := by decide +kernel
theorem d_law_39 : decode code 39 = .ok (.tableswitch 1324 0 17 #[85, 141, 185, 241, 309, 389, 449, 541, 632, 700, 780, 860, 940, 1020, 1088, 1144, 1200, 1268], 85) := by decide +kernel
theorem d_law_124 : decode code 124 = .ok (.aload_n 1, 1) := by decide +kernel
theorem d_law_125 : decode code 125 = .ok (.aload_n 0, 1) := by decide +kernel
theorem d_law_126 : decode code 126 = .ok (.iload 4, 2) := by decide +kernel
theorem d_law_128 : decode code 128 = .ok (.iconst 1, 1) := by decide +kernel
theorem d_law_129 : decode code 129 = .ok (.iadd, 1) := by decide +kernel
theorem d_law_130 : decode code 130 = .ok (.iaload, 1) := by decide +kernel
theorem d_law_131 : decode code 131 = .ok (.aload_n 3, 1) := by decide +kernel
theorem d_law_132 : decode code 132 = .ok (.invokestatic 80, 3) := by decide +kernel
theorem d_law_135 : decode code 135 = .ok (.istore 5, 2) := by decide +kernel
theorem d_law_137 : decode code 137 = .ok (.aload_n 2, 1) := by decide +kernel
theorem d_law_138 : decode code 138 = .ok (.aload_n 0, 1) := by decide +kernel
theorem d_law_139 : decode code 139 = .ok (.iload 4, 2) := by decide +kernel
theorem d_law_141 : decode code 141 = .ok (.iconst 1, 1) := by decide +kernel
theorem d_law_142 : decode code 142 = .ok (.iadd, 1) := by decide +kernel
theorem d_law_143 : decode code 143 = .ok (.iaload, 1) := by decide +kernel
theorem d_law_144 : decode code 144 = .ok (.invokevirtual 85, 3) := by decide +kernel
theorem d_law_147 : decode code 147 = .ok (.istore 6, 2) := by decide +kernel
theorem d_law_149 : decode code 149 = .ok (.aload_n 2, 1) := by decide +kernel
theorem d_law_150 : decode code 150 = .ok (.invokevirtual 86, 3) := by decide +kernel
theorem d_law_153 : decode code 153 = .ok (.iload 5, 2) := by decide +kernel
theorem d_law_155 : decode code 155 = .ok (.if_icmp .eq 5, 3) := by decide +kernel
theorem d_law_158 : decode code 158 = .ok (.iconst 0, 1) := by decide +kernel
theorem d_law_159 : decode code 159 = .ok (.ireturn, 1) := by decide +kernel
theorem d_law_160 : decode code 160 = .ok (.iload 5, 2) := by decide +kernel
theorem d_law_162 : decode code 162 = .ok (.ifCond .ne 15, 3) := by decide +kernel
theorem d_law_165 : decode code 165 = .ok (.aload_n 3, 1) := by decide +kernel
theorem d_law_166 : decode code 166 = .ok (.iconst 0, 1) := by decide +kernel
theorem d_law_167 : decode code 167 = .ok (.laload, 1) := by decide +kernel
theorem d_law_168 : decode code 168 = .ok (.iload 6, 2) := by decide +kernel
theorem d_law_170 : decode code 170 = .ok (.i2l, 1) := by decide +kernel
theorem d_law_171 : decode code 171 = .ok (.lcmp, 1) := by decide +kernel
theorem d_law_172 : decode code 172 = .ok (.ifCond .eq 5, 3) := by decide +kernel
theorem d_law_175 : decode code 175 = .ok (.iconst 0, 1) := by decide +kernel
theorem d_law_176 : decode code 176 = .ok (.ireturn, 1) := by decide +kernel
theorem d_law_177 : decode code 177 = .ok (.goto 1186, 3) := by decide +kernel
theorem d_law_180 : decode code 180 = .ok (.aload_n 1, 1) := by decide +kernel
theorem d_law_181 : decode code 181 = .ok (.aload_n 3, 1) := by decide +kernel
theorem d_law_182 : decode code 182 = .ok (.invokestatic 89, 3) := by decide +kernel
theorem d_law_185 : decode code 185 = .ok (.istore 5, 2) := by decide +kernel
theorem d_law_187 : decode code 187 = .ok (.aload_n 2, 1) := by decide +kernel
theorem d_law_188 : decode code 188 = .ok (.invokevirtual 92, 3) := by decide +kernel
theorem d_law_191 : decode code 191 = .ok (.istore 6, 2) := by decide +kernel
theorem d_law_193 : decode code 193 = .ok (.aload_n 2, 1) := by decide +kernel
theorem d_law_194 : decode code 194 = .ok (.invokevirtual 86, 3) := by decide +kernel
theorem d_law_197 : decode code 197 = .ok (.iload 5, 2) := by decide +kernel
theorem d_law_199 : decode code 199 = .ok (.if_icmp .eq 5, 3) := by decide +kernel
theorem d_law_202 : decode code 202 = .ok (.iconst 0, 1) := by decide +kernel
theorem d_law_203 : decode code 203 = .ok (.ireturn, 1) := by decide +kernel
theorem d_law_204 : decode code 204 = .ok (.iload 5, 2) := by decide +kernel
theorem d_law_206 : decode code 206 = .ok (.ifCond .ne 15, 3) := by decide +kernel
theorem d_law_209 : decode code 209 = .ok (.aload_n 3, 1) := by decide +kernel
theorem d_law_210 : decode code 210 = .ok (.iconst 0, 1) := by decide +kernel
theorem d_law_211 : decode code 211 = .ok (.laload, 1) := by decide +kernel
theorem d_law_212 : decode code 212 = .ok (.iload 6, 2) := by decide +kernel
theorem d_law_214 : decode code 214 = .ok (.i2l, 1) := by decide +kernel
theorem d_law_215 : decode code 215 = .ok (.lcmp, 1) := by decide +kernel
theorem d_law_216 : decode code 216 = .ok (.ifCond .eq 5, 3) := by decide +kernel
theorem d_law_219 : decode code 219 = .ok (.iconst 0, 1) := by decide +kernel
theorem d_law_220 : decode code 220 = .ok (.ireturn, 1) := by decide +kernel
theorem d_law_221 : decode code 221 = .ok (.goto 1142, 3) := by decide +kernel
theorem d_law_224 : decode code 224 = .ok (.aload_n 1, 1) := by decide +kernel
theorem d_law_225 : decode code 225 = .ok (.aload_n 0, 1) := by decide +kernel
theorem d_law_226 : decode code 226 = .ok (.iload 4, 2) := by decide +kernel
theorem d_law_228 : decode code 228 = .ok (.iconst 1, 1) := by decide +kernel
theorem d_law_229 : decode code 229 = .ok (.iadd, 1) := by decide +kernel
theorem d_law_230 : decode code 230 = .ok (.iaload, 1) := by decide +kernel
theorem d_law_231 : decode code 231 = .ok (.aload_n 3, 1) := by decide +kernel
theorem d_law_232 : decode code 232 = .ok (.invokestatic 93, 3) := by decide +kernel
theorem d_law_235 : decode code 235 = .ok (.istore 5, 2) := by decide +kernel
theorem d_law_237 : decode code 237 = .ok (.aload_n 2, 1) := by decide +kernel
theorem d_law_238 : decode code 238 = .ok (.aload_n 0, 1) := by decide +kernel
theorem d_law_239 : decode code 239 = .ok (.iload 4, 2) := by decide +kernel
theorem d_law_241 : decode code 241 = .ok (.iconst 1, 1) := by decide +kernel
theorem d_law_242 : decode code 242 = .ok (.iadd, 1) := by decide +kernel
theorem d_law_243 : decode code 243 = .ok (.iaload, 1) := by decide +kernel
theorem d_law_244 : decode code 244 = .ok (.invokevirtual 95, 3) := by decide +kernel
theorem d_law_247 : decode code 247 = .ok (.istore 6, 2) := by decide +kernel
theorem d_law_249 : decode code 249 = .ok (.aload_n 2, 1) := by decide +kernel
theorem d_law_250 : decode code 250 = .ok (.invokevirtual 86, 3) := by decide +kernel
theorem d_law_253 : decode code 253 = .ok (.iload 5, 2) := by decide +kernel
theorem d_law_255 : decode code 255 = .ok (.if_icmp .eq 5, 3) := by decide +kernel
theorem d_law_258 : decode code 258 = .ok (.iconst 0, 1) := by decide +kernel
theorem d_law_259 : decode code 259 = .ok (.ireturn, 1) := by decide +kernel
theorem d_law_260 : decode code 260 = .ok (.iload 5, 2) := by decide +kernel
theorem d_law_262 : decode code 262 = .ok (.ifCond .ne 15, 3) := by decide +kernel
theorem d_law_265 : decode code 265 = .ok (.aload_n 3, 1) := by decide +kernel
theorem d_law_266 : decode code 266 = .ok (.iconst 0, 1) := by decide +kernel
theorem d_law_267 : decode code 267 = .ok (.laload, 1) := by decide +kernel
theorem d_law_268 : decode code 268 = .ok (.iload 6, 2) := by decide +kernel
theorem d_law_270 : decode code 270 = .ok (.i2l, 1) := by decide +kernel
theorem d_law_271 : decode code 271 = .ok (.lcmp, 1) := by decide +kernel
theorem d_law_272 : decode code 272 = .ok (.ifCond .eq 5, 3) := by decide +kernel
theorem d_law_275 : decode code 275 = .ok (.iconst 0, 1) := by decide +kernel
theorem d_law_276 : decode code 276 = .ok (.ireturn, 1) := by decide +kernel
theorem d_law_277 : decode code 277 = .ok (.goto 1086, 3) := by decide +kernel
theorem d_law_280 : decode code 280 = .ok (.aload_n 1, 1) := by decide +kernel
theorem d_law_281 : decode code 281 = .ok (.aload_n 0, 1) := by decide +kernel
theorem d_law_282 : decode code 282 = .ok (.iload 4, 2) := by decide +kernel
theorem d_law_284 : decode code 284 = .ok (.iconst 1, 1) := by decide +kernel
theorem d_law_285 : decode code 285 = .ok (.iadd, 1) := by decide +kernel
theorem d_law_286 : decode code 286 = .ok (.iaload, 1) := by decide +kernel
theorem d_law_287 : decode code 287 = .ok (.aload_n 0, 1) := by decide +kernel
theorem d_law_288 : decode code 288 = .ok (.iload 4, 2) := by decide +kernel
theorem d_law_290 : decode code 290 = .ok (.iconst 2, 1) := by decide +kernel
theorem d_law_291 : decode code 291 = .ok (.iadd, 1) := by decide +kernel
theorem d_law_292 : decode code 292 = .ok (.iaload, 1) := by decide +kernel
theorem d_law_293 : decode code 293 = .ok (.aload_n 3, 1) := by decide +kernel
theorem d_law_294 : decode code 294 = .ok (.invokestatic 96, 3) := by decide +kernel
theorem d_law_297 : decode code 297 = .ok (.istore 5, 2) := by decide +kernel
theorem d_law_299 : decode code 299 = .ok (.aload_n 2, 1) := by decide +kernel
theorem d_law_300 : decode code 300 = .ok (.aload_n 0, 1) := by decide +kernel
theorem d_law_301 : decode code 301 = .ok (.iload 4, 2) := by decide +kernel
theorem d_law_303 : decode code 303 = .ok (.iconst 1, 1) := by decide +kernel
theorem d_law_304 : decode code 304 = .ok (.iadd, 1) := by decide +kernel
theorem d_law_305 : decode code 305 = .ok (.iaload, 1) := by decide +kernel
theorem d_law_306 : decode code 306 = .ok (.aload_n 0, 1) := by decide +kernel
theorem d_law_307 : decode code 307 = .ok (.iload 4, 2) := by decide +kernel
theorem d_law_309 : decode code 309 = .ok (.iconst 2, 1) := by decide +kernel
theorem d_law_310 : decode code 310 = .ok (.iadd, 1) := by decide +kernel
theorem d_law_311 : decode code 311 = .ok (.iaload, 1) := by decide +kernel
theorem d_law_312 : decode code 312 = .ok (.invokevirtual 99, 3) := by decide +kernel
theorem d_law_315 : decode code 315 = .ok (.istore 6, 2) := by decide +kernel
theorem d_law_317 : decode code 317 = .ok (.aload_n 2, 1) := by decide +kernel
theorem d_law_318 : decode code 318 = .ok (.invokevirtual 86, 3) := by decide +kernel
theorem d_law_321 : decode code 321 = .ok (.iload 5, 2) := by decide +kernel
theorem d_law_323 : decode code 323 = .ok (.if_icmp .eq 5, 3) := by decide +kernel
theorem d_law_326 : decode code 326 = .ok (.iconst 0, 1) := by decide +kernel
theorem d_law_327 : decode code 327 = .ok (.ireturn, 1) := by decide +kernel
theorem d_law_328 : decode code 328 = .ok (.iload 5, 2) := by decide +kernel
theorem d_law_330 : decode code 330 = .ok (.ifCond .ne 15, 3) := by decide +kernel
theorem d_law_333 : decode code 333 = .ok (.aload_n 3, 1) := by decide +kernel
theorem d_law_334 : decode code 334 = .ok (.iconst 0, 1) := by decide +kernel
theorem d_law_335 : decode code 335 = .ok (.laload, 1) := by decide +kernel
theorem d_law_336 : decode code 336 = .ok (.iload 6, 2) := by decide +kernel
theorem d_law_338 : decode code 338 = .ok (.i2l, 1) := by decide +kernel
theorem d_law_339 : decode code 339 = .ok (.lcmp, 1) := by decide +kernel
theorem d_law_340 : decode code 340 = .ok (.ifCond .eq 5, 3) := by decide +kernel
theorem d_law_343 : decode code 343 = .ok (.iconst 0, 1) := by decide +kernel
theorem d_law_344 : decode code 344 = .ok (.ireturn, 1) := by decide +kernel
theorem d_law_345 : decode code 345 = .ok (.goto 1018, 3) := by decide +kernel
theorem d_law_348 : decode code 348 = .ok (.aload_n 1, 1) := by decide +kernel
theorem d_law_349 : decode code 349 = .ok (.aload_n 0, 1) := by decide +kernel
theorem d_law_350 : decode code 350 = .ok (.iload 4, 2) := by decide +kernel
theorem d_law_352 : decode code 352 = .ok (.iconst 1, 1) := by decide +kernel
theorem d_law_353 : decode code 353 = .ok (.iadd, 1) := by decide +kernel
theorem d_law_354 : decode code 354 = .ok (.iaload, 1) := by decide +kernel
theorem d_law_355 : decode code 355 = .ok (.aload_n 0, 1) := by decide +kernel
theorem d_law_356 : decode code 356 = .ok (.iload 4, 2) := by decide +kernel
theorem d_law_358 : decode code 358 = .ok (.iconst 2, 1) := by decide +kernel
theorem d_law_359 : decode code 359 = .ok (.iadd, 1) := by decide +kernel
theorem d_law_360 : decode code 360 = .ok (.iaload, 1) := by decide +kernel
theorem d_law_361 : decode code 361 = .ok (.aload_n 0, 1) := by decide +kernel
theorem d_law_362 : decode code 362 = .ok (.iload 4, 2) := by decide +kernel
theorem d_law_364 : decode code 364 = .ok (.iconst 3, 1) := by decide +kernel
theorem d_law_365 : decode code 365 = .ok (.iadd, 1) := by decide +kernel
theorem d_law_366 : decode code 366 = .ok (.iaload, 1) := by decide +kernel
theorem d_law_367 : decode code 367 = .ok (.aload_n 3, 1) := by decide +kernel
theorem d_law_368 : decode code 368 = .ok (.invokestatic 100, 3) := by decide +kernel
theorem d_law_371 : decode code 371 = .ok (.istore 5, 2) := by decide +kernel
theorem d_law_373 : decode code 373 = .ok (.aload_n 2, 1) := by decide +kernel
theorem d_law_374 : decode code 374 = .ok (.aload_n 0, 1) := by decide +kernel
theorem d_law_375 : decode code 375 = .ok (.iload 4, 2) := by decide +kernel
theorem d_law_377 : decode code 377 = .ok (.iconst 1, 1) := by decide +kernel
theorem d_law_378 : decode code 378 = .ok (.iadd, 1) := by decide +kernel
theorem d_law_379 : decode code 379 = .ok (.iaload, 1) := by decide +kernel
theorem d_law_380 : decode code 380 = .ok (.aload_n 0, 1) := by decide +kernel
theorem d_law_381 : decode code 381 = .ok (.iload 4, 2) := by decide +kernel
theorem d_law_383 : decode code 383 = .ok (.iconst 2, 1) := by decide +kernel
theorem d_law_384 : decode code 384 = .ok (.iadd, 1) := by decide +kernel
theorem d_law_385 : decode code 385 = .ok (.iaload, 1) := by decide +kernel
theorem d_law_386 : decode code 386 = .ok (.aload_n 0, 1) := by decide +kernel
theorem d_law_387 : decode code 387 = .ok (.iload 4, 2) := by decide +kernel
theorem d_law_389 : decode code 389 = .ok (.iconst 3, 1) := by decide +kernel
theorem d_law_390 : decode code 390 = .ok (.iadd, 1) := by decide +kernel
theorem d_law_391 : decode code 391 = .ok (.iaload, 1) := by decide +kernel
theorem d_law_392 : decode code 392 = .ok (.invokevirtual 103, 3) := by decide +kernel
theorem d_law_395 : decode code 395 = .ok (.istore 6, 2) := by decide +kernel
theorem d_law_397 : decode code 397 = .ok (.aload_n 2, 1) := by decide +kernel
theorem d_law_398 : decode code 398 = .ok (.invokevirtual 86, 3) := by decide +kernel
theorem d_law_401 : decode code 401 = .ok (.iload 5, 2) := by decide +kernel
theorem d_law_403 : decode code 403 = .ok (.if_icmp .eq 5, 3) := by decide +kernel
theorem d_law_406 : decode code 406 = .ok (.iconst 0, 1) := by decide +kernel
theorem d_law_407 : decode code 407 = .ok (.ireturn, 1) := by decide +kernel
theorem d_law_408 : decode code 408 = .ok (.iload 5, 2) := by decide +kernel
theorem d_law_410 : decode code 410 = .ok (.ifCond .ne 15, 3) := by decide +kernel
theorem d_law_413 : decode code 413 = .ok (.aload_n 3, 1) := by decide +kernel
theorem d_law_414 : decode code 414 = .ok (.iconst 0, 1) := by decide +kernel
theorem d_law_415 : decode code 415 = .ok (.laload, 1) := by decide +kernel
theorem d_law_416 : decode code 416 = .ok (.iload 6, 2) := by decide +kernel
theorem d_law_418 : decode code 418 = .ok (.i2l, 1) := by decide +kernel
theorem d_law_419 : decode code 419 = .ok (.lcmp, 1) := by decide +kernel
theorem d_law_420 : decode code 420 = .ok (.ifCond .eq 5, 3) := by decide +kernel
theorem d_law_423 : decode code 423 = .ok (.iconst 0, 1) := by decide +kernel
theorem d_law_424 : decode code 424 = .ok (.ireturn, 1) := by decide +kernel
theorem d_law_425 : decode code 425 = .ok (.goto 938, 3) := by decide +kernel
theorem d_law_428 : decode code 428 = .ok (.aload_n 1, 1) := by decide +kernel
theorem d_law_429 : decode code 429 = .ok (.aload_n 0, 1) := by decide +kernel
theorem d_law_430 : decode code 430 = .ok (.iload 4, 2) := by decide +kernel
theorem d_law_432 : decode code 432 = .ok (.iconst 1, 1) := by decide +kernel
theorem d_law_433 : decode code 433 = .ok (.iadd, 1) := by decide +kernel
theorem d_law_434 : decode code 434 = .ok (.iaload, 1) := by decide +kernel
theorem d_law_435 : decode code 435 = .ok (.aload_n 0, 1) := by decide +kernel
theorem d_law_436 : decode code 436 = .ok (.iload 4, 2) := by decide +kernel
theorem d_law_438 : decode code 438 = .ok (.iconst 2, 1) := by decide +kernel
theorem d_law_439 : decode code 439 = .ok (.iadd, 1) := by decide +kernel
theorem d_law_440 : decode code 440 = .ok (.iaload, 1) := by decide +kernel
theorem d_law_441 : decode code 441 = .ok (.aload_n 0, 1) := by decide +kernel
theorem d_law_442 : decode code 442 = .ok (.iload 4, 2) := by decide +kernel
theorem d_law_444 : decode code 444 = .ok (.iconst 3, 1) := by decide +kernel
theorem d_law_445 : decode code 445 = .ok (.iadd, 1) := by decide +kernel
theorem d_law_446 : decode code 446 = .ok (.iaload, 1) := by decide +kernel
theorem d_law_447 : decode code 447 = .ok (.invokestatic 104, 3) := by decide +kernel
theorem d_law_450 : decode code 450 = .ok (.istore 5, 2) := by decide +kernel
theorem d_law_452 : decode code 452 = .ok (.aload_n 2, 1) := by decide +kernel
theorem d_law_453 : decode code 453 = .ok (.aload_n 0, 1) := by decide +kernel
theorem d_law_454 : decode code 454 = .ok (.iload 4, 2) := by decide +kernel
theorem d_law_456 : decode code 456 = .ok (.iconst 1, 1) := by decide +kernel
theorem d_law_457 : decode code 457 = .ok (.iadd, 1) := by decide +kernel
theorem d_law_458 : decode code 458 = .ok (.iaload, 1) := by decide +kernel
theorem d_law_459 : decode code 459 = .ok (.aload_n 0, 1) := by decide +kernel
theorem d_law_460 : decode code 460 = .ok (.iload 4, 2) := by decide +kernel
theorem d_law_462 : decode code 462 = .ok (.iconst 2, 1) := by decide +kernel
theorem d_law_463 : decode code 463 = .ok (.iadd, 1) := by decide +kernel
theorem d_law_464 : decode code 464 = .ok (.iaload, 1) := by decide +kernel
theorem d_law_465 : decode code 465 = .ok (.aload_n 0, 1) := by decide +kernel
theorem d_law_466 : decode code 466 = .ok (.iload 4, 2) := by decide +kernel
theorem d_law_468 : decode code 468 = .ok (.iconst 3, 1) := by decide +kernel
theorem d_law_469 : decode code 469 = .ok (.iadd, 1) := by decide +kernel
theorem d_law_470 : decode code 470 = .ok (.iaload, 1) := by decide +kernel
theorem d_law_471 : decode code 471 = .ok (.invokevirtual 107, 3) := by decide +kernel
theorem d_law_474 : decode code 474 = .ok (.aload_n 2, 1) := by decide +kernel
theorem d_law_475 : decode code 475 = .ok (.invokevirtual 86, 3) := by decide +kernel
theorem d_law_478 : decode code 478 = .ok (.iload 5, 2) := by decide +kernel
theorem d_law_480 : decode code 480 = .ok (.if_icmp .eq 5, 3) := by decide +kernel
theorem d_law_483 : decode code 483 = .ok (.iconst 0, 1) := by decide +kernel
theorem d_law_484 : decode code 484 = .ok (.ireturn, 1) := by decide +kernel
theorem d_law_485 : decode code 485 = .ok (.goto 878, 3) := by decide +kernel
theorem d_law_488 : decode code 488 = .ok (.aload_n 1, 1) := by decide +kernel
theorem d_law_489 : decode code 489 = .ok (.aload_n 0, 1) := by decide +kernel
theorem d_law_490 : decode code 490 = .ok (.iload 4, 2) := by decide +kernel
theorem d_law_492 : decode code 492 = .ok (.iconst 1, 1) := by decide +kernel
theorem d_law_493 : decode code 493 = .ok (.iadd, 1) := by decide +kernel
theorem d_law_494 : decode code 494 = .ok (.iaload, 1) := by decide +kernel
theorem d_law_495 : decode code 495 = .ok (.aload_n 0, 1) := by decide +kernel
theorem d_law_496 : decode code 496 = .ok (.iload 4, 2) := by decide +kernel
theorem d_law_498 : decode code 498 = .ok (.iconst 2, 1) := by decide +kernel
theorem d_law_499 : decode code 499 = .ok (.iadd, 1) := by decide +kernel
theorem d_law_500 : decode code 500 = .ok (.iaload, 1) := by decide +kernel
theorem d_law_501 : decode code 501 = .ok (.aload_n 0, 1) := by decide +kernel
theorem d_law_502 : decode code 502 = .ok (.iload 4, 2) := by decide +kernel
theorem d_law_504 : decode code 504 = .ok (.iconst 3, 1) := by decide +kernel
theorem d_law_505 : decode code 505 = .ok (.iadd, 1) := by decide +kernel
theorem d_law_506 : decode code 506 = .ok (.iaload, 1) := by decide +kernel
theorem d_law_507 : decode code 507 = .ok (.aload_n 0, 1) := by decide +kernel
theorem d_law_508 : decode code 508 = .ok (.iload 4, 2) := by decide +kernel
theorem d_law_510 : decode code 510 = .ok (.iconst 4, 1) := by decide +kernel
theorem d_law_511 : decode code 511 = .ok (.iadd, 1) := by decide +kernel
theorem d_law_512 : decode code 512 = .ok (.iaload, 1) := by decide +kernel
theorem d_law_513 : decode code 513 = .ok (.aload_n 3, 1) := by decide +kernel
theorem d_law_514 : decode code 514 = .ok (.invokestatic 108, 3) := by decide +kernel
theorem d_law_517 : decode code 517 = .ok (.istore 5, 2) := by decide +kernel
theorem d_law_519 : decode code 519 = .ok (.aload_n 2, 1) := by decide +kernel
theorem d_law_520 : decode code 520 = .ok (.aload_n 0, 1) := by decide +kernel
theorem d_law_521 : decode code 521 = .ok (.iload 4, 2) := by decide +kernel
theorem d_law_523 : decode code 523 = .ok (.iconst 1, 1) := by decide +kernel
theorem d_law_524 : decode code 524 = .ok (.iadd, 1) := by decide +kernel
theorem d_law_525 : decode code 525 = .ok (.iaload, 1) := by decide +kernel
theorem d_law_526 : decode code 526 = .ok (.aload_n 0, 1) := by decide +kernel
theorem d_law_527 : decode code 527 = .ok (.iload 4, 2) := by decide +kernel
theorem d_law_529 : decode code 529 = .ok (.iconst 2, 1) := by decide +kernel
theorem d_law_530 : decode code 530 = .ok (.iadd, 1) := by decide +kernel
theorem d_law_531 : decode code 531 = .ok (.iaload, 1) := by decide +kernel
theorem d_law_532 : decode code 532 = .ok (.aload_n 0, 1) := by decide +kernel
theorem d_law_533 : decode code 533 = .ok (.iload 4, 2) := by decide +kernel
theorem d_law_535 : decode code 535 = .ok (.iconst 3, 1) := by decide +kernel
theorem d_law_536 : decode code 536 = .ok (.iadd, 1) := by decide +kernel
theorem d_law_537 : decode code 537 = .ok (.iaload, 1) := by decide +kernel
theorem d_law_538 : decode code 538 = .ok (.aload_n 0, 1) := by decide +kernel
theorem d_law_539 : decode code 539 = .ok (.iload 4, 2) := by decide +kernel
theorem d_law_541 : decode code 541 = .ok (.iconst 4, 1) := by decide +kernel
theorem d_law_542 : decode code 542 = .ok (.iadd, 1) := by decide +kernel
theorem d_law_543 : decode code 543 = .ok (.iaload, 1) := by decide +kernel
theorem d_law_544 : decode code 544 = .ok (.invokevirtual 111, 3) := by decide +kernel
theorem d_law_547 : decode code 547 = .ok (.istore 6, 2) := by decide +kernel
theorem d_law_549 : decode code 549 = .ok (.aload_n 2, 1) := by decide +kernel
theorem d_law_550 : decode code 550 = .ok (.invokevirtual 86, 3) := by decide +kernel
theorem d_law_553 : decode code 553 = .ok (.iload 5, 2) := by decide +kernel
theorem d_law_555 : decode code 555 = .ok (.if_icmp .eq 5, 3) := by decide +kernel
theorem d_law_558 : decode code 558 = .ok (.iconst 0, 1) := by decide +kernel
theorem d_law_559 : decode code 559 = .ok (.ireturn, 1) := by decide +kernel
theorem d_law_560 : decode code 560 = .ok (.iload 5, 2) := by decide +kernel
theorem d_law_562 : decode code 562 = .ok (.ifCond .ne 15, 3) := by decide +kernel
theorem d_law_565 : decode code 565 = .ok (.aload_n 3, 1) := by decide +kernel
theorem d_law_566 : decode code 566 = .ok (.iconst 0, 1) := by decide +kernel
theorem d_law_567 : decode code 567 = .ok (.laload, 1) := by decide +kernel
theorem d_law_568 : decode code 568 = .ok (.iload 6, 2) := by decide +kernel
theorem d_law_570 : decode code 570 = .ok (.i2l, 1) := by decide +kernel
theorem d_law_571 : decode code 571 = .ok (.lcmp, 1) := by decide +kernel
theorem d_law_572 : decode code 572 = .ok (.ifCond .eq 5, 3) := by decide +kernel
theorem d_law_575 : decode code 575 = .ok (.iconst 0, 1) := by decide +kernel
theorem d_law_576 : decode code 576 = .ok (.ireturn, 1) := by decide +kernel
theorem d_law_577 : decode code 577 = .ok (.goto 786, 3) := by decide +kernel
theorem d_law_580 : decode code 580 = .ok (.aload_n 1, 1) := by decide +kernel
theorem d_law_581 : decode code 581 = .ok (.aload_n 0, 1) := by decide +kernel
theorem d_law_582 : decode code 582 = .ok (.iload 4, 2) := by decide +kernel
theorem d_law_584 : decode code 584 = .ok (.iconst 1, 1) := by decide +kernel
theorem d_law_585 : decode code 585 = .ok (.iadd, 1) := by decide +kernel
theorem d_law_586 : decode code 586 = .ok (.iaload, 1) := by decide +kernel
theorem d_law_587 : decode code 587 = .ok (.aload_n 0, 1) := by decide +kernel
theorem d_law_588 : decode code 588 = .ok (.iload 4, 2) := by decide +kernel
theorem d_law_590 : decode code 590 = .ok (.iconst 2, 1) := by decide +kernel
theorem d_law_591 : decode code 591 = .ok (.iadd, 1) := by decide +kernel
theorem d_law_592 : decode code 592 = .ok (.iaload, 1) := by decide +kernel
theorem d_law_593 : decode code 593 = .ok (.ifCond .eq 7, 3) := by decide +kernel
theorem d_law_596 : decode code 596 = .ok (.iconst 1, 1) := by decide +kernel
theorem d_law_597 : decode code 597 = .ok (.goto 4, 3) := by decide +kernel
theorem d_law_600 : decode code 600 = .ok (.iconst 0, 1) := by decide +kernel
theorem d_law_601 : decode code 601 = .ok (.aload_n 3, 1) := by decide +kernel
theorem d_law_602 : decode code 602 = .ok (.invokestatic 112, 3) := by decide +kernel
theorem d_law_605 : decode code 605 = .ok (.istore 5, 2) := by decide +kernel
theorem d_law_607 : decode code 607 = .ok (.aload_n 2, 1) := by decide +kernel
theorem d_law_608 : decode code 608 = .ok (.aload_n 0, 1) := by decide +kernel
theorem d_law_609 : decode code 609 = .ok (.iload 4, 2) := by decide +kernel
theorem d_law_611 : decode code 611 = .ok (.iconst 1, 1) := by decide +kernel
theorem d_law_612 : decode code 612 = .ok (.iadd, 1) := by decide +kernel
theorem d_law_613 : decode code 613 = .ok (.iaload, 1) := by decide +kernel
theorem d_law_614 : decode code 614 = .ok (.aload_n 0, 1) := by decide +kernel
theorem d_law_615 : decode code 615 = .ok (.iload 4, 2) := by decide +kernel
theorem d_law_617 : decode code 617 = .ok (.iconst 2, 1) := by decide +kernel
theorem d_law_618 : decode code 618 = .ok (.iadd, 1) := by decide +kernel
theorem d_law_619 : decode code 619 = .ok (.iaload, 1) := by decide +kernel
theorem d_law_620 : decode code 620 = .ok (.ifCond .eq 7, 3) := by decide +kernel
theorem d_law_623 : decode code 623 = .ok (.iconst 1, 1) := by decide +kernel
theorem d_law_624 : decode code 624 = .ok (.goto 4, 3) := by decide +kernel
theorem d_law_627 : decode code 627 = .ok (.iconst 0, 1) := by decide +kernel
theorem d_law_628 : decode code 628 = .ok (.invokevirtual 115, 3) := by decide +kernel
theorem d_law_631 : decode code 631 = .ok (.istore 6, 2) := by decide +kernel
theorem d_law_633 : decode code 633 = .ok (.aload_n 2, 1) := by decide +kernel
theorem d_law_634 : decode code 634 = .ok (.invokevirtual 86, 3) := by decide +kernel
theorem d_law_637 : decode code 637 = .ok (.iload 5, 2) := by decide +kernel
theorem d_law_639 : decode code 639 = .ok (.if_icmp .eq 5, 3) := by decide +kernel
theorem d_law_642 : decode code 642 = .ok (.iconst 0, 1) := by decide +kernel
theorem d_law_643 : decode code 643 = .ok (.ireturn, 1) := by decide +kernel
theorem d_law_644 : decode code 644 = .ok (.iload 5, 2) := by decide +kernel
theorem d_law_646 : decode code 646 = .ok (.ifCond .ne 22, 3) := by decide +kernel
theorem d_law_649 : decode code 649 = .ok (.aload_n 3, 1) := by decide +kernel
theorem d_law_650 : decode code 650 = .ok (.iconst 0, 1) := by decide +kernel
theorem d_law_651 : decode code 651 = .ok (.laload, 1) := by decide +kernel
theorem d_law_652 : decode code 652 = .ok (.iload 6, 2) := by decide +kernel
theorem d_law_654 : decode code 654 = .ok (.ifCond .eq 7, 3) := by decide +kernel
theorem d_law_657 : decode code 657 = .ok (.lconst 1, 1) := by decide +kernel
theorem d_law_658 : decode code 658 = .ok (.goto 4, 3) := by decide +kernel
theorem d_law_661 : decode code 661 = .ok (.lconst 0, 1) := by decide +kernel
theorem d_law_662 : decode code 662 = .ok (.lcmp, 1) := by decide +kernel
theorem d_law_663 : decode code 663 = .ok (.ifCond .eq 5, 3) := by decide +kernel
theorem d_law_666 : decode code 666 = .ok (.iconst 0, 1) := by decide +kernel
theorem d_law_667 : decode code 667 = .ok (.ireturn, 1) := by decide +kernel
theorem d_law_668 : decode code 668 = .ok (.goto 695, 3) := by decide +kernel
theorem d_law_671 : decode code 671 = .ok (.aload_n 1, 1) := by decide +kernel
theorem d_law_672 : decode code 672 = .ok (.aload_n 0, 1) := by decide +kernel
theorem d_law_673 : decode code 673 = .ok (.iload 4, 2) := by decide +kernel
theorem d_law_675 : decode code 675 = .ok (.iconst 1, 1) := by decide +kernel
theorem d_law_676 : decode code 676 = .ok (.iadd, 1) := by decide +kernel
theorem d_law_677 : decode code 677 = .ok (.iaload, 1) := by decide +kernel
theorem d_law_678 : decode code 678 = .ok (.aload_n 0, 1) := by decide +kernel
theorem d_law_679 : decode code 679 = .ok (.iload 4, 2) := by decide +kernel
theorem d_law_681 : decode code 681 = .ok (.iconst 2, 1) := by decide +kernel
theorem d_law_682 : decode code 682 = .ok (.iadd, 1) := by decide +kernel
theorem d_law_683 : decode code 683 = .ok (.iaload, 1) := by decide +kernel
theorem d_law_684 : decode code 684 = .ok (.aload_n 3, 1) := by decide +kernel
theorem d_law_685 : decode code 685 = .ok (.invokestatic 116, 3) := by decide +kernel
theorem d_law_688 : decode code 688 = .ok (.istore 5, 2) := by decide +kernel
theorem d_law_690 : decode code 690 = .ok (.aload_n 2, 1) := by decide +kernel
theorem d_law_691 : decode code 691 = .ok (.aload_n 0, 1) := by decide +kernel
theorem d_law_692 : decode code 692 = .ok (.iload 4, 2) := by decide +kernel
theorem d_law_694 : decode code 694 = .ok (.iconst 1, 1) := by decide +kernel
theorem d_law_695 : decode code 695 = .ok (.iadd, 1) := by decide +kernel
theorem d_law_696 : decode code 696 = .ok (.iaload, 1) := by decide +kernel
theorem d_law_697 : decode code 697 = .ok (.aload_n 0, 1) := by decide +kernel
theorem d_law_698 : decode code 698 = .ok (.iload 4, 2) := by decide +kernel
theorem d_law_700 : decode code 700 = .ok (.iconst 2, 1) := by decide +kernel
theorem d_law_701 : decode code 701 = .ok (.iadd, 1) := by decide +kernel
theorem d_law_702 : decode code 702 = .ok (.iaload, 1) := by decide +kernel
theorem d_law_703 : decode code 703 = .ok (.invokevirtual 118, 3) := by decide +kernel
theorem d_law_706 : decode code 706 = .ok (.istore 6, 2) := by decide +kernel
theorem d_law_708 : decode code 708 = .ok (.aload_n 2, 1) := by decide +kernel
theorem d_law_709 : decode code 709 = .ok (.invokevirtual 86, 3) := by decide +kernel
theorem d_law_712 : decode code 712 = .ok (.iload 5, 2) := by decide +kernel
theorem d_law_714 : decode code 714 = .ok (.if_icmp .eq 5, 3) := by decide +kernel
theorem d_law_717 : decode code 717 = .ok (.iconst 0, 1) := by decide +kernel
theorem d_law_718 : decode code 718 = .ok (.ireturn, 1) := by decide +kernel
theorem d_law_719 : decode code 719 = .ok (.iload 5, 2) := by decide +kernel
theorem d_law_721 : decode code 721 = .ok (.ifCond .ne 15, 3) := by decide +kernel
theorem d_law_724 : decode code 724 = .ok (.aload_n 3, 1) := by decide +kernel
theorem d_law_725 : decode code 725 = .ok (.iconst 0, 1) := by decide +kernel
theorem d_law_726 : decode code 726 = .ok (.laload, 1) := by decide +kernel
theorem d_law_727 : decode code 727 = .ok (.iload 6, 2) := by decide +kernel
theorem d_law_729 : decode code 729 = .ok (.i2l, 1) := by decide +kernel
theorem d_law_730 : decode code 730 = .ok (.lcmp, 1) := by decide +kernel
theorem d_law_731 : decode code 731 = .ok (.ifCond .eq 5, 3) := by decide +kernel
theorem d_law_734 : decode code 734 = .ok (.iconst 0, 1) := by decide +kernel
theorem d_law_735 : decode code 735 = .ok (.ireturn, 1) := by decide +kernel
theorem d_law_736 : decode code 736 = .ok (.goto 627, 3) := by decide +kernel
theorem d_law_739 : decode code 739 = .ok (.aload_n 1, 1) := by decide +kernel
theorem d_law_740 : decode code 740 = .ok (.aload_n 0, 1) := by decide +kernel
theorem d_law_741 : decode code 741 = .ok (.iload 4, 2) := by decide +kernel
theorem d_law_743 : decode code 743 = .ok (.iconst 1, 1) := by decide +kernel
theorem d_law_744 : decode code 744 = .ok (.iadd, 1) := by decide +kernel
theorem d_law_745 : decode code 745 = .ok (.iaload, 1) := by decide +kernel
theorem d_law_746 : decode code 746 = .ok (.aload_n 0, 1) := by decide +kernel
theorem d_law_747 : decode code 747 = .ok (.iload 4, 2) := by decide +kernel
theorem d_law_749 : decode code 749 = .ok (.iconst 2, 1) := by decide +kernel
theorem d_law_750 : decode code 750 = .ok (.iadd, 1) := by decide +kernel
theorem d_law_751 : decode code 751 = .ok (.iaload, 1) := by decide +kernel
theorem d_law_752 : decode code 752 = .ok (.aload_n 0, 1) := by decide +kernel
theorem d_law_753 : decode code 753 = .ok (.iload 4, 2) := by decide +kernel
theorem d_law_755 : decode code 755 = .ok (.iconst 3, 1) := by decide +kernel
theorem d_law_756 : decode code 756 = .ok (.iadd, 1) := by decide +kernel
theorem d_law_757 : decode code 757 = .ok (.iaload, 1) := by decide +kernel
theorem d_law_758 : decode code 758 = .ok (.aload_n 3, 1) := by decide +kernel
theorem d_law_759 : decode code 759 = .ok (.invokestatic 119, 3) := by decide +kernel
theorem d_law_762 : decode code 762 = .ok (.istore 5, 2) := by decide +kernel
theorem d_law_764 : decode code 764 = .ok (.aload_n 2, 1) := by decide +kernel
theorem d_law_765 : decode code 765 = .ok (.aload_n 0, 1) := by decide +kernel
theorem d_law_766 : decode code 766 = .ok (.iload 4, 2) := by decide +kernel
theorem d_law_768 : decode code 768 = .ok (.iconst 1, 1) := by decide +kernel
theorem d_law_769 : decode code 769 = .ok (.iadd, 1) := by decide +kernel
theorem d_law_770 : decode code 770 = .ok (.iaload, 1) := by decide +kernel
theorem d_law_771 : decode code 771 = .ok (.aload_n 0, 1) := by decide +kernel
theorem d_law_772 : decode code 772 = .ok (.iload 4, 2) := by decide +kernel
theorem d_law_774 : decode code 774 = .ok (.iconst 2, 1) := by decide +kernel
theorem d_law_775 : decode code 775 = .ok (.iadd, 1) := by decide +kernel
theorem d_law_776 : decode code 776 = .ok (.iaload, 1) := by decide +kernel
theorem d_law_777 : decode code 777 = .ok (.aload_n 0, 1) := by decide +kernel
theorem d_law_778 : decode code 778 = .ok (.iload 4, 2) := by decide +kernel
theorem d_law_780 : decode code 780 = .ok (.iconst 3, 1) := by decide +kernel
theorem d_law_781 : decode code 781 = .ok (.iadd, 1) := by decide +kernel
theorem d_law_782 : decode code 782 = .ok (.iaload, 1) := by decide +kernel
theorem d_law_783 : decode code 783 = .ok (.invokevirtual 121, 3) := by decide +kernel
theorem d_law_786 : decode code 786 = .ok (.istore 6, 2) := by decide +kernel
theorem d_law_788 : decode code 788 = .ok (.aload_n 2, 1) := by decide +kernel
theorem d_law_789 : decode code 789 = .ok (.invokevirtual 86, 3) := by decide +kernel
theorem d_law_792 : decode code 792 = .ok (.iload 5, 2) := by decide +kernel
theorem d_law_794 : decode code 794 = .ok (.if_icmp .eq 5, 3) := by decide +kernel
theorem d_law_797 : decode code 797 = .ok (.iconst 0, 1) := by decide +kernel
theorem d_law_798 : decode code 798 = .ok (.ireturn, 1) := by decide +kernel
theorem d_law_799 : decode code 799 = .ok (.iload 5, 2) := by decide +kernel
theorem d_law_801 : decode code 801 = .ok (.ifCond .ne 15, 3) := by decide +kernel
theorem d_law_804 : decode code 804 = .ok (.aload_n 3, 1) := by decide +kernel
theorem d_law_805 : decode code 805 = .ok (.iconst 0, 1) := by decide +kernel
theorem d_law_806 : decode code 806 = .ok (.laload, 1) := by decide +kernel
theorem d_law_807 : decode code 807 = .ok (.iload 6, 2) := by decide +kernel
theorem d_law_809 : decode code 809 = .ok (.i2l, 1) := by decide +kernel
theorem d_law_810 : decode code 810 = .ok (.lcmp, 1) := by decide +kernel
theorem d_law_811 : decode code 811 = .ok (.ifCond .eq 5, 3) := by decide +kernel
theorem d_law_814 : decode code 814 = .ok (.iconst 0, 1) := by decide +kernel
theorem d_law_815 : decode code 815 = .ok (.ireturn, 1) := by decide +kernel
theorem d_law_816 : decode code 816 = .ok (.goto 547, 3) := by decide +kernel
theorem d_law_819 : decode code 819 = .ok (.aload_n 1, 1) := by decide +kernel
theorem d_law_820 : decode code 820 = .ok (.aload_n 0, 1) := by decide +kernel
theorem d_law_821 : decode code 821 = .ok (.iload 4, 2) := by decide +kernel
theorem d_law_823 : decode code 823 = .ok (.iconst 1, 1) := by decide +kernel
theorem d_law_824 : decode code 824 = .ok (.iadd, 1) := by decide +kernel
theorem d_law_825 : decode code 825 = .ok (.iaload, 1) := by decide +kernel
theorem d_law_826 : decode code 826 = .ok (.aload_n 0, 1) := by decide +kernel
theorem d_law_827 : decode code 827 = .ok (.iload 4, 2) := by decide +kernel
theorem d_law_829 : decode code 829 = .ok (.iconst 2, 1) := by decide +kernel
theorem d_law_830 : decode code 830 = .ok (.iadd, 1) := by decide +kernel
theorem d_law_831 : decode code 831 = .ok (.iaload, 1) := by decide +kernel
theorem d_law_832 : decode code 832 = .ok (.aload_n 0, 1) := by decide +kernel
theorem d_law_833 : decode code 833 = .ok (.iload 4, 2) := by decide +kernel
theorem d_law_835 : decode code 835 = .ok (.iconst 3, 1) := by decide +kernel
theorem d_law_836 : decode code 836 = .ok (.iadd, 1) := by decide +kernel
theorem d_law_837 : decode code 837 = .ok (.iaload, 1) := by decide +kernel
theorem d_law_838 : decode code 838 = .ok (.aload_n 3, 1) := by decide +kernel
theorem d_law_839 : decode code 839 = .ok (.invokestatic 122, 3) := by decide +kernel
theorem d_law_842 : decode code 842 = .ok (.istore 5, 2) := by decide +kernel
theorem d_law_844 : decode code 844 = .ok (.aload_n 2, 1) := by decide +kernel
theorem d_law_845 : decode code 845 = .ok (.aload_n 0, 1) := by decide +kernel
theorem d_law_846 : decode code 846 = .ok (.iload 4, 2) := by decide +kernel
theorem d_law_848 : decode code 848 = .ok (.iconst 1, 1) := by decide +kernel
theorem d_law_849 : decode code 849 = .ok (.iadd, 1) := by decide +kernel
theorem d_law_850 : decode code 850 = .ok (.iaload, 1) := by decide +kernel
theorem d_law_851 : decode code 851 = .ok (.aload_n 0, 1) := by decide +kernel
theorem d_law_852 : decode code 852 = .ok (.iload 4, 2) := by decide +kernel
theorem d_law_854 : decode code 854 = .ok (.iconst 2, 1) := by decide +kernel
theorem d_law_855 : decode code 855 = .ok (.iadd, 1) := by decide +kernel
theorem d_law_856 : decode code 856 = .ok (.iaload, 1) := by decide +kernel
theorem d_law_857 : decode code 857 = .ok (.aload_n 0, 1) := by decide +kernel
theorem d_law_858 : decode code 858 = .ok (.iload 4, 2) := by decide +kernel
theorem d_law_860 : decode code 860 = .ok (.iconst 3, 1) := by decide +kernel
theorem d_law_861 : decode code 861 = .ok (.iadd, 1) := by decide +kernel
theorem d_law_862 : decode code 862 = .ok (.iaload, 1) := by decide +kernel
theorem d_law_863 : decode code 863 = .ok (.invokevirtual 124, 3) := by decide +kernel
theorem d_law_866 : decode code 866 = .ok (.istore 6, 2) := by decide +kernel
theorem d_law_868 : decode code 868 = .ok (.aload_n 2, 1) := by decide +kernel
theorem d_law_869 : decode code 869 = .ok (.invokevirtual 86, 3) := by decide +kernel
theorem d_law_872 : decode code 872 = .ok (.iload 5, 2) := by decide +kernel
theorem d_law_874 : decode code 874 = .ok (.if_icmp .eq 5, 3) := by decide +kernel
theorem d_law_877 : decode code 877 = .ok (.iconst 0, 1) := by decide +kernel
theorem d_law_878 : decode code 878 = .ok (.ireturn, 1) := by decide +kernel
theorem d_law_879 : decode code 879 = .ok (.iload 5, 2) := by decide +kernel
theorem d_law_881 : decode code 881 = .ok (.ifCond .ne 15, 3) := by decide +kernel
theorem d_law_884 : decode code 884 = .ok (.aload_n 3, 1) := by decide +kernel
theorem d_law_885 : decode code 885 = .ok (.iconst 0, 1) := by decide +kernel
theorem d_law_886 : decode code 886 = .ok (.laload, 1) := by decide +kernel
theorem d_law_887 : decode code 887 = .ok (.iload 6, 2) := by decide +kernel
theorem d_law_889 : decode code 889 = .ok (.i2l, 1) := by decide +kernel
theorem d_law_890 : decode code 890 = .ok (.lcmp, 1) := by decide +kernel
theorem d_law_891 : decode code 891 = .ok (.ifCond .eq 5, 3) := by decide +kernel
theorem d_law_894 : decode code 894 = .ok (.iconst 0, 1) := by decide +kernel
theorem d_law_895 : decode code 895 = .ok (.ireturn, 1) := by decide +kernel
theorem d_law_896 : decode code 896 = .ok (.goto 467, 3) := by decide +kernel
theorem d_law_899 : decode code 899 = .ok (.aload_n 1, 1) := by decide +kernel
theorem d_law_900 : decode code 900 = .ok (.aload_n 0, 1) := by decide +kernel
theorem d_law_901 : decode code 901 = .ok (.iload 4, 2) := by decide +kernel
theorem d_law_903 : decode code 903 = .ok (.iconst 1, 1) := by decide +kernel
theorem d_law_904 : decode code 904 = .ok (.iadd, 1) := by decide +kernel
theorem d_law_905 : decode code 905 = .ok (.iaload, 1) := by decide +kernel
theorem d_law_906 : decode code 906 = .ok (.aload_n 0, 1) := by decide +kernel
theorem d_law_907 : decode code 907 = .ok (.iload 4, 2) := by decide +kernel
theorem d_law_909 : decode code 909 = .ok (.iconst 2, 1) := by decide +kernel
theorem d_law_910 : decode code 910 = .ok (.iadd, 1) := by decide +kernel
theorem d_law_911 : decode code 911 = .ok (.iaload, 1) := by decide +kernel
theorem d_law_912 : decode code 912 = .ok (.aload_n 0, 1) := by decide +kernel
theorem d_law_913 : decode code 913 = .ok (.iload 4, 2) := by decide +kernel
theorem d_law_915 : decode code 915 = .ok (.iconst 3, 1) := by decide +kernel
theorem d_law_916 : decode code 916 = .ok (.iadd, 1) := by decide +kernel
theorem d_law_917 : decode code 917 = .ok (.iaload, 1) := by decide +kernel
theorem d_law_918 : decode code 918 = .ok (.aload_n 3, 1) := by decide +kernel
theorem d_law_919 : decode code 919 = .ok (.invokestatic 125, 3) := by decide +kernel
theorem d_law_922 : decode code 922 = .ok (.istore 5, 2) := by decide +kernel
theorem d_law_924 : decode code 924 = .ok (.aload_n 2, 1) := by decide +kernel
theorem d_law_925 : decode code 925 = .ok (.aload_n 0, 1) := by decide +kernel
theorem d_law_926 : decode code 926 = .ok (.iload 4, 2) := by decide +kernel
theorem d_law_928 : decode code 928 = .ok (.iconst 1, 1) := by decide +kernel
theorem d_law_929 : decode code 929 = .ok (.iadd, 1) := by decide +kernel
theorem d_law_930 : decode code 930 = .ok (.iaload, 1) := by decide +kernel
theorem d_law_931 : decode code 931 = .ok (.aload_n 0, 1) := by decide +kernel
theorem d_law_932 : decode code 932 = .ok (.iload 4, 2) := by decide +kernel
theorem d_law_934 : decode code 934 = .ok (.iconst 2, 1) := by decide +kernel
theorem d_law_935 : decode code 935 = .ok (.iadd, 1) := by decide +kernel
theorem d_law_936 : decode code 936 = .ok (.iaload, 1) := by decide +kernel
theorem d_law_937 : decode code 937 = .ok (.aload_n 0, 1) := by decide +kernel
theorem d_law_938 : decode code 938 = .ok (.iload 4, 2) := by decide +kernel
theorem d_law_940 : decode code 940 = .ok (.iconst 3, 1) := by decide +kernel
theorem d_law_941 : decode code 941 = .ok (.iadd, 1) := by decide +kernel
theorem d_law_942 : decode code 942 = .ok (.iaload, 1) := by decide +kernel
theorem d_law_943 : decode code 943 = .ok (.invokevirtual 127, 3) := by decide +kernel
theorem d_law_946 : decode code 946 = .ok (.istore 6, 2) := by decide +kernel
theorem d_law_948 : decode code 948 = .ok (.aload_n 2, 1) := by decide +kernel
theorem d_law_949 : decode code 949 = .ok (.invokevirtual 86, 3) := by decide +kernel
theorem d_law_952 : decode code 952 = .ok (.iload 5, 2) := by decide +kernel
theorem d_law_954 : decode code 954 = .ok (.if_icmp .eq 5, 3) := by decide +kernel
theorem d_law_957 : decode code 957 = .ok (.iconst 0, 1) := by decide +kernel
theorem d_law_958 : decode code 958 = .ok (.ireturn, 1) := by decide +kernel
theorem d_law_959 : decode code 959 = .ok (.iload 5, 2) := by decide +kernel
theorem d_law_961 : decode code 961 = .ok (.ifCond .ne 15, 3) := by decide +kernel
theorem d_law_964 : decode code 964 = .ok (.aload_n 3, 1) := by decide +kernel
theorem d_law_965 : decode code 965 = .ok (.iconst 0, 1) := by decide +kernel
theorem d_law_966 : decode code 966 = .ok (.laload, 1) := by decide +kernel
theorem d_law_967 : decode code 967 = .ok (.iload 6, 2) := by decide +kernel
theorem d_law_969 : decode code 969 = .ok (.i2l, 1) := by decide +kernel
theorem d_law_970 : decode code 970 = .ok (.lcmp, 1) := by decide +kernel
theorem d_law_971 : decode code 971 = .ok (.ifCond .eq 5, 3) := by decide +kernel
theorem d_law_974 : decode code 974 = .ok (.iconst 0, 1) := by decide +kernel
theorem d_law_975 : decode code 975 = .ok (.ireturn, 1) := by decide +kernel
theorem d_law_976 : decode code 976 = .ok (.goto 387, 3) := by decide +kernel
theorem d_law_979 : decode code 979 = .ok (.aload_n 1, 1) := by decide +kernel
theorem d_law_980 : decode code 980 = .ok (.aload_n 0, 1) := by decide +kernel
theorem d_law_981 : decode code 981 = .ok (.iload 4, 2) := by decide +kernel
theorem d_law_983 : decode code 983 = .ok (.iconst 1, 1) := by decide +kernel
theorem d_law_984 : decode code 984 = .ok (.iadd, 1) := by decide +kernel
theorem d_law_985 : decode code 985 = .ok (.iaload, 1) := by decide +kernel
theorem d_law_986 : decode code 986 = .ok (.aload_n 0, 1) := by decide +kernel
theorem d_law_987 : decode code 987 = .ok (.iload 4, 2) := by decide +kernel
theorem d_law_989 : decode code 989 = .ok (.iconst 2, 1) := by decide +kernel
theorem d_law_990 : decode code 990 = .ok (.iadd, 1) := by decide +kernel
theorem d_law_991 : decode code 991 = .ok (.iaload, 1) := by decide +kernel
theorem d_law_992 : decode code 992 = .ok (.aload_n 0, 1) := by decide +kernel
theorem d_law_993 : decode code 993 = .ok (.iload 4, 2) := by decide +kernel
theorem d_law_995 : decode code 995 = .ok (.iconst 3, 1) := by decide +kernel
theorem d_law_996 : decode code 996 = .ok (.iadd, 1) := by decide +kernel
theorem d_law_997 : decode code 997 = .ok (.iaload, 1) := by decide +kernel
theorem d_law_998 : decode code 998 = .ok (.aload_n 3, 1) := by decide +kernel
theorem d_law_999 : decode code 999 = .ok (.invokestatic 128, 3) := by decide +kernel
theorem d_law_1002 : decode code 1002 = .ok (.istore 5, 2) := by decide +kernel
theorem d_law_1004 : decode code 1004 = .ok (.aload_n 2, 1) := by decide +kernel
theorem d_law_1005 : decode code 1005 = .ok (.aload_n 0, 1) := by decide +kernel
theorem d_law_1006 : decode code 1006 = .ok (.iload 4, 2) := by decide +kernel
theorem d_law_1008 : decode code 1008 = .ok (.iconst 1, 1) := by decide +kernel
theorem d_law_1009 : decode code 1009 = .ok (.iadd, 1) := by decide +kernel
theorem d_law_1010 : decode code 1010 = .ok (.iaload, 1) := by decide +kernel
theorem d_law_1011 : decode code 1011 = .ok (.aload_n 0, 1) := by decide +kernel
theorem d_law_1012 : decode code 1012 = .ok (.iload 4, 2) := by decide +kernel
theorem d_law_1014 : decode code 1014 = .ok (.iconst 2, 1) := by decide +kernel
theorem d_law_1015 : decode code 1015 = .ok (.iadd, 1) := by decide +kernel
theorem d_law_1016 : decode code 1016 = .ok (.iaload, 1) := by decide +kernel
theorem d_law_1017 : decode code 1017 = .ok (.aload_n 0, 1) := by decide +kernel
theorem d_law_1018 : decode code 1018 = .ok (.iload 4, 2) := by decide +kernel
theorem d_law_1020 : decode code 1020 = .ok (.iconst 3, 1) := by decide +kernel
theorem d_law_1021 : decode code 1021 = .ok (.iadd, 1) := by decide +kernel
theorem d_law_1022 : decode code 1022 = .ok (.iaload, 1) := by decide +kernel
theorem d_law_1023 : decode code 1023 = .ok (.invokevirtual 130, 3) := by decide +kernel
theorem d_law_1026 : decode code 1026 = .ok (.istore 6, 2) := by decide +kernel
theorem d_law_1028 : decode code 1028 = .ok (.aload_n 2, 1) := by decide +kernel
theorem d_law_1029 : decode code 1029 = .ok (.invokevirtual 86, 3) := by decide +kernel
theorem d_law_1032 : decode code 1032 = .ok (.iload 5, 2) := by decide +kernel
theorem d_law_1034 : decode code 1034 = .ok (.if_icmp .eq 5, 3) := by decide +kernel
theorem d_law_1037 : decode code 1037 = .ok (.iconst 0, 1) := by decide +kernel
theorem d_law_1038 : decode code 1038 = .ok (.ireturn, 1) := by decide +kernel
theorem d_law_1039 : decode code 1039 = .ok (.iload 5, 2) := by decide +kernel
theorem d_law_1041 : decode code 1041 = .ok (.ifCond .ne 15, 3) := by decide +kernel
theorem d_law_1044 : decode code 1044 = .ok (.aload_n 3, 1) := by decide +kernel
theorem d_law_1045 : decode code 1045 = .ok (.iconst 0, 1) := by decide +kernel
theorem d_law_1046 : decode code 1046 = .ok (.laload, 1) := by decide +kernel
theorem d_law_1047 : decode code 1047 = .ok (.iload 6, 2) := by decide +kernel
theorem d_law_1049 : decode code 1049 = .ok (.i2l, 1) := by decide +kernel
theorem d_law_1050 : decode code 1050 = .ok (.lcmp, 1) := by decide +kernel
theorem d_law_1051 : decode code 1051 = .ok (.ifCond .eq 5, 3) := by decide +kernel
theorem d_law_1054 : decode code 1054 = .ok (.iconst 0, 1) := by decide +kernel
theorem d_law_1055 : decode code 1055 = .ok (.ireturn, 1) := by decide +kernel
theorem d_law_1056 : decode code 1056 = .ok (.goto 307, 3) := by decide +kernel
theorem d_law_1059 : decode code 1059 = .ok (.aload_n 1, 1) := by decide +kernel
theorem d_law_1060 : decode code 1060 = .ok (.aload_n 0, 1) := by decide +kernel
theorem d_law_1061 : decode code 1061 = .ok (.iload 4, 2) := by decide +kernel
theorem d_law_1063 : decode code 1063 = .ok (.iconst 1, 1) := by decide +kernel
theorem d_law_1064 : decode code 1064 = .ok (.iadd, 1) := by decide +kernel
theorem d_law_1065 : decode code 1065 = .ok (.iaload, 1) := by decide +kernel
theorem d_law_1066 : decode code 1066 = .ok (.aload_n 0, 1) := by decide +kernel
theorem d_law_1067 : decode code 1067 = .ok (.iload 4, 2) := by decide +kernel
theorem d_law_1069 : decode code 1069 = .ok (.iconst 2, 1) := by decide +kernel
theorem d_law_1070 : decode code 1070 = .ok (.iadd, 1) := by decide +kernel
theorem d_law_1071 : decode code 1071 = .ok (.iaload, 1) := by decide +kernel
theorem d_law_1072 : decode code 1072 = .ok (.aload_n 3, 1) := by decide +kernel
theorem d_law_1073 : decode code 1073 = .ok (.invokestatic 131, 3) := by decide +kernel
theorem d_law_1076 : decode code 1076 = .ok (.istore 5, 2) := by decide +kernel
theorem d_law_1078 : decode code 1078 = .ok (.aload_n 2, 1) := by decide +kernel
theorem d_law_1079 : decode code 1079 = .ok (.aload_n 0, 1) := by decide +kernel
theorem d_law_1080 : decode code 1080 = .ok (.iload 4, 2) := by decide +kernel
theorem d_law_1082 : decode code 1082 = .ok (.iconst 1, 1) := by decide +kernel
theorem d_law_1083 : decode code 1083 = .ok (.iadd, 1) := by decide +kernel
theorem d_law_1084 : decode code 1084 = .ok (.iaload, 1) := by decide +kernel
theorem d_law_1085 : decode code 1085 = .ok (.aload_n 0, 1) := by decide +kernel
theorem d_law_1086 : decode code 1086 = .ok (.iload 4, 2) := by decide +kernel
theorem d_law_1088 : decode code 1088 = .ok (.iconst 2, 1) := by decide +kernel
theorem d_law_1089 : decode code 1089 = .ok (.iadd, 1) := by decide +kernel
theorem d_law_1090 : decode code 1090 = .ok (.iaload, 1) := by decide +kernel
theorem d_law_1091 : decode code 1091 = .ok (.invokevirtual 133, 3) := by decide +kernel
theorem d_law_1094 : decode code 1094 = .ok (.istore 6, 2) := by decide +kernel
theorem d_law_1096 : decode code 1096 = .ok (.aload_n 2, 1) := by decide +kernel
theorem d_law_1097 : decode code 1097 = .ok (.invokevirtual 86, 3) := by decide +kernel
theorem d_law_1100 : decode code 1100 = .ok (.iload 5, 2) := by decide +kernel
theorem d_law_1102 : decode code 1102 = .ok (.if_icmp .eq 5, 3) := by decide +kernel
theorem d_law_1105 : decode code 1105 = .ok (.iconst 0, 1) := by decide +kernel
theorem d_law_1106 : decode code 1106 = .ok (.ireturn, 1) := by decide +kernel
theorem d_law_1107 : decode code 1107 = .ok (.iload 5, 2) := by decide +kernel
theorem d_law_1109 : decode code 1109 = .ok (.ifCond .ne 15, 3) := by decide +kernel
theorem d_law_1112 : decode code 1112 = .ok (.aload_n 3, 1) := by decide +kernel
theorem d_law_1113 : decode code 1113 = .ok (.iconst 0, 1) := by decide +kernel
theorem d_law_1114 : decode code 1114 = .ok (.laload, 1) := by decide +kernel
theorem d_law_1115 : decode code 1115 = .ok (.iload 6, 2) := by decide +kernel
theorem d_law_1117 : decode code 1117 = .ok (.i2l, 1) := by decide +kernel
theorem d_law_1118 : decode code 1118 = .ok (.lcmp, 1) := by decide +kernel
theorem d_law_1119 : decode code 1119 = .ok (.ifCond .eq 5, 3) := by decide +kernel
theorem d_law_1122 : decode code 1122 = .ok (.iconst 0, 1) := by decide +kernel
theorem d_law_1123 : decode code 1123 = .ok (.ireturn, 1) := by decide +kernel
theorem d_law_1124 : decode code 1124 = .ok (.goto 239, 3) := by decide +kernel
theorem d_law_1127 : decode code 1127 = .ok (.aload_n 1, 1) := by decide +kernel
theorem d_law_1128 : decode code 1128 = .ok (.aload_n 0, 1) := by decide +kernel
theorem d_law_1129 : decode code 1129 = .ok (.iload 4, 2) := by decide +kernel
theorem d_law_1131 : decode code 1131 = .ok (.iconst 1, 1) := by decide +kernel
theorem d_law_1132 : decode code 1132 = .ok (.iadd, 1) := by decide +kernel
theorem d_law_1133 : decode code 1133 = .ok (.iaload, 1) := by decide +kernel
theorem d_law_1134 : decode code 1134 = .ok (.aload_n 3, 1) := by decide +kernel
theorem d_law_1135 : decode code 1135 = .ok (.invokestatic 134, 3) := by decide +kernel
theorem d_law_1138 : decode code 1138 = .ok (.istore 5, 2) := by decide +kernel
theorem d_law_1140 : decode code 1140 = .ok (.aload_n 2, 1) := by decide +kernel
theorem d_law_1141 : decode code 1141 = .ok (.aload_n 0, 1) := by decide +kernel
theorem d_law_1142 : decode code 1142 = .ok (.iload 4, 2) := by decide +kernel
theorem d_law_1144 : decode code 1144 = .ok (.iconst 1, 1) := by decide +kernel
theorem d_law_1145 : decode code 1145 = .ok (.iadd, 1) := by decide +kernel
theorem d_law_1146 : decode code 1146 = .ok (.iaload, 1) := by decide +kernel
theorem d_law_1147 : decode code 1147 = .ok (.invokevirtual 136, 3) := by decide +kernel
theorem d_law_1150 : decode code 1150 = .ok (.istore 6, 2) := by decide +kernel
theorem d_law_1152 : decode code 1152 = .ok (.aload_n 2, 1) := by decide +kernel
theorem d_law_1153 : decode code 1153 = .ok (.invokevirtual 86, 3) := by decide +kernel
theorem d_law_1156 : decode code 1156 = .ok (.iload 5, 2) := by decide +kernel
theorem d_law_1158 : decode code 1158 = .ok (.if_icmp .eq 5, 3) := by decide +kernel
theorem d_law_1161 : decode code 1161 = .ok (.iconst 0, 1) := by decide +kernel
theorem d_law_1162 : decode code 1162 = .ok (.ireturn, 1) := by decide +kernel
theorem d_law_1163 : decode code 1163 = .ok (.iload 5, 2) := by decide +kernel
theorem d_law_1165 : decode code 1165 = .ok (.ifCond .ne 15, 3) := by decide +kernel
theorem d_law_1168 : decode code 1168 = .ok (.aload_n 3, 1) := by decide +kernel
theorem d_law_1169 : decode code 1169 = .ok (.iconst 0, 1) := by decide +kernel
theorem d_law_1170 : decode code 1170 = .ok (.laload, 1) := by decide +kernel
theorem d_law_1171 : decode code 1171 = .ok (.iload 6, 2) := by decide +kernel
theorem d_law_1173 : decode code 1173 = .ok (.i2l, 1) := by decide +kernel
theorem d_law_1174 : decode code 1174 = .ok (.lcmp, 1) := by decide +kernel
theorem d_law_1175 : decode code 1175 = .ok (.ifCond .eq 5, 3) := by decide +kernel
theorem d_law_1178 : decode code 1178 = .ok (.iconst 0, 1) := by decide +kernel
theorem d_law_1179 : decode code 1179 = .ok (.ireturn, 1) := by decide +kernel
theorem d_law_1180 : decode code 1180 = .ok (.goto 183, 3) := by decide +kernel
theorem d_law_1183 : decode code 1183 = .ok (.aload_n 1, 1) := by decide +kernel
theorem d_law_1184 : decode code 1184 = .ok (.aload_n 0, 1) := by decide +kernel
theorem d_law_1185 : decode code 1185 = .ok (.iload 4, 2) := by decide +kernel
theorem d_law_1187 : decode code 1187 = .ok (.iconst 1, 1) := by decide +kernel
theorem d_law_1188 : decode code 1188 = .ok (.iadd, 1) := by decide +kernel
theorem d_law_1189 : decode code 1189 = .ok (.iaload, 1) := by decide +kernel
theorem d_law_1190 : decode code 1190 = .ok (.aload_n 3, 1) := by decide +kernel
theorem d_law_1191 : decode code 1191 = .ok (.invokestatic 137, 3) := by decide +kernel
theorem d_law_1194 : decode code 1194 = .ok (.istore 5, 2) := by decide +kernel
theorem d_law_1196 : decode code 1196 = .ok (.aload_n 2, 1) := by decide +kernel
theorem d_law_1197 : decode code 1197 = .ok (.aload_n 0, 1) := by decide +kernel
theorem d_law_1198 : decode code 1198 = .ok (.iload 4, 2) := by decide +kernel
theorem d_law_1200 : decode code 1200 = .ok (.iconst 1, 1) := by decide +kernel
theorem d_law_1201 : decode code 1201 = .ok (.iadd, 1) := by decide +kernel
theorem d_law_1202 : decode code 1202 = .ok (.iaload, 1) := by decide +kernel
theorem d_law_1203 : decode code 1203 = .ok (.invokevirtual 139, 3) := by decide +kernel
theorem d_law_1206 : decode code 1206 = .ok (.istore 6, 2) := by decide +kernel
theorem d_law_1208 : decode code 1208 = .ok (.aload_n 2, 1) := by decide +kernel
theorem d_law_1209 : decode code 1209 = .ok (.invokevirtual 86, 3) := by decide +kernel
theorem d_law_1212 : decode code 1212 = .ok (.iload 5, 2) := by decide +kernel
theorem d_law_1214 : decode code 1214 = .ok (.if_icmp .eq 5, 3) := by decide +kernel
theorem d_law_1217 : decode code 1217 = .ok (.iconst 0, 1) := by decide +kernel
theorem d_law_1218 : decode code 1218 = .ok (.ireturn, 1) := by decide +kernel
theorem d_law_1219 : decode code 1219 = .ok (.iload 5, 2) := by decide +kernel
theorem d_law_1221 : decode code 1221 = .ok (.ifCond .ne 15, 3) := by decide +kernel
theorem d_law_1224 : decode code 1224 = .ok (.aload_n 3, 1) := by decide +kernel
theorem d_law_1225 : decode code 1225 = .ok (.iconst 0, 1) := by decide +kernel
theorem d_law_1226 : decode code 1226 = .ok (.laload, 1) := by decide +kernel
theorem d_law_1227 : decode code 1227 = .ok (.iload 6, 2) := by decide +kernel
theorem d_law_1229 : decode code 1229 = .ok (.i2l, 1) := by decide +kernel
theorem d_law_1230 : decode code 1230 = .ok (.lcmp, 1) := by decide +kernel
theorem d_law_1231 : decode code 1231 = .ok (.ifCond .eq 5, 3) := by decide +kernel
theorem d_law_1234 : decode code 1234 = .ok (.iconst 0, 1) := by decide +kernel
theorem d_law_1235 : decode code 1235 = .ok (.ireturn, 1) := by decide +kernel
theorem d_law_1236 : decode code 1236 = .ok (.goto 127, 3) := by decide +kernel
theorem d_law_1239 : decode code 1239 = .ok (.aload_n 1, 1) := by decide +kernel
theorem d_law_1240 : decode code 1240 = .ok (.aload_n 0, 1) := by decide +kernel
theorem d_law_1241 : decode code 1241 = .ok (.iload 4, 2) := by decide +kernel
theorem d_law_1243 : decode code 1243 = .ok (.iconst 1, 1) := by decide +kernel
theorem d_law_1244 : decode code 1244 = .ok (.iadd, 1) := by decide +kernel
theorem d_law_1245 : decode code 1245 = .ok (.iaload, 1) := by decide +kernel
theorem d_law_1246 : decode code 1246 = .ok (.aload_n 0, 1) := by decide +kernel
theorem d_law_1247 : decode code 1247 = .ok (.iload 4, 2) := by decide +kernel
theorem d_law_1249 : decode code 1249 = .ok (.iconst 2, 1) := by decide +kernel
theorem d_law_1250 : decode code 1250 = .ok (.iadd, 1) := by decide +kernel
theorem d_law_1251 : decode code 1251 = .ok (.iaload, 1) := by decide +kernel
theorem d_law_1252 : decode code 1252 = .ok (.aload_n 3, 1) := by decide +kernel
theorem d_law_1253 : decode code 1253 = .ok (.invokestatic 140, 3) := by decide +kernel
theorem d_law_1256 : decode code 1256 = .ok (.istore 5, 2) := by decide +kernel
theorem d_law_1258 : decode code 1258 = .ok (.aload_n 2, 1) := by decide +kernel
theorem d_law_1259 : decode code 1259 = .ok (.aload_n 0, 1) := by decide +kernel
theorem d_law_1260 : decode code 1260 = .ok (.iload 4, 2) := by decide +kernel
theorem d_law_1262 : decode code 1262 = .ok (.iconst 1, 1) := by decide +kernel
theorem d_law_1263 : decode code 1263 = .ok (.iadd, 1) := by decide +kernel
theorem d_law_1264 : decode code 1264 = .ok (.iaload, 1) := by decide +kernel
theorem d_law_1265 : decode code 1265 = .ok (.aload_n 0, 1) := by decide +kernel
theorem d_law_1266 : decode code 1266 = .ok (.iload 4, 2) := by decide +kernel
theorem d_law_1268 : decode code 1268 = .ok (.iconst 2, 1) := by decide +kernel
theorem d_law_1269 : decode code 1269 = .ok (.iadd, 1) := by decide +kernel
theorem d_law_1270 : decode code 1270 = .ok (.iaload, 1) := by decide +kernel
theorem d_law_1271 : decode code 1271 = .ok (.invokevirtual 142, 3) := by decide +kernel
theorem d_law_1274 : decode code 1274 = .ok (.istore 6, 2) := by decide +kernel
theorem d_law_1276 : decode code 1276 = .ok (.aload_n 2, 1) := by decide +kernel
theorem d_law_1277 : decode code 1277 = .ok (.invokevirtual 86, 3) := by decide +kernel
theorem d_law_1280 : decode code 1280 = .ok (.iload 5, 2) := by decide +kernel
theorem d_law_1282 : decode code 1282 = .ok (.if_icmp .eq 5, 3) := by decide +kernel
theorem d_law_1285 : decode code 1285 = .ok (.iconst 0, 1) := by decide +kernel
theorem d_law_1286 : decode code 1286 = .ok (.ireturn, 1) := by decide +kernel
theorem d_law_1287 : decode code 1287 = .ok (.iload 5, 2) := by decide +kernel
theorem d_law_1289 : decode code 1289 = .ok (.ifCond .ne 15, 3) := by decide +kernel
theorem d_law_1292 : decode code 1292 = .ok (.aload_n 3, 1) := by decide +kernel
theorem d_law_1293 : decode code 1293 = .ok (.iconst 0, 1) := by decide +kernel
theorem d_law_1294 : decode code 1294 = .ok (.laload, 1) := by decide +kernel
theorem d_law_1295 : decode code 1295 = .ok (.iload 6, 2) := by decide +kernel
theorem d_law_1297 : decode code 1297 = .ok (.i2l, 1) := by decide +kernel
theorem d_law_1298 : decode code 1298 = .ok (.lcmp, 1) := by decide +kernel
theorem d_law_1299 : decode code 1299 = .ok (.ifCond .eq 5, 3) := by decide +kernel
theorem d_law_1302 : decode code 1302 = .ok (.iconst 0, 1) := by decide +kernel
theorem d_law_1303 : decode code 1303 = .ok (.ireturn, 1) := by decide +kernel
theorem d_law_1304 : decode code 1304 = .ok (.goto 59, 3) := by decide +kernel
theorem d_law_1307 : decode code 1307 = .ok (.aload_n 1, 1) := by decide +kernel
theorem d_law_1308 : decode code 1308 = .ok (.aload_n 0, 1) := by decide +kernel
theorem d_law_1309 : decode code 1309 = .ok (.iload 4, 2) := by decide +kernel
theorem d_law_1311 : decode code 1311 = .ok (.iconst 1, 1) := by decide +kernel
theorem d_law_1312 : decode code 1312 = .ok (.iadd, 1) := by decide +kernel
theorem d_law_1313 : decode code 1313 = .ok (.iaload, 1) := by decide +kernel
theorem d_law_1314 : decode code 1314 = .ok (.aload_n 3, 1) := by decide +kernel
theorem d_law_1315 : decode code 1315 = .ok (.invokestatic 143, 3) := by decide +kernel
theorem d_law_1318 : decode code 1318 = .ok (.istore 5, 2) := by decide +kernel
theorem d_law_1320 : decode code 1320 = .ok (.aload_n 2, 1) := by decide +kernel
theorem d_law_1321 : decode code 1321 = .ok (.aload_n 0, 1) := by decide +kernel
theorem d_law_1322 : decode code 1322 = .ok (.iload 4, 2) := by decide +kernel
theorem d_law_1324 : decode code 1324 = .ok (.iconst 1, 1) := by decide +kernel
theorem d_law_1325 : decode code 1325 = .ok (.iadd, 1) := by decide +kernel
theorem d_law_1326 : decode code 1326 = .ok (.iaload, 1) := by decide +kernel
theorem d_law_1327 : decode code 1327 = .ok (.invokevirtual 145, 3) := by decide +kernel
theorem d_law_1330 : decode code 1330 = .ok (.istore 6, 2) := by decide +kernel
theorem d_law_1332 : decode code 1332 = .ok (.aload_n 2, 1) := by decide +kernel
theorem d_law_1333 : decode code 1333 = .ok (.invokevirtual 86, 3) := by decide +kernel
theorem d_law_1336 : decode code 1336 = .ok (.iload 5, 2) := by decide +kernel
theorem d_law_1338 : decode code 1338 = .ok (.if_icmp .eq 5, 3) := by decide +kernel
theorem d_law_1341 : decode code 1341 = .ok (.iconst 0, 1) := by decide +kernel
theorem d_law_1342 : decode code 1342 = .ok (.ireturn, 1) := by decide +kernel
theorem d_law_1343 : decode code 1343 = .ok (.iload 5, 2) := by decide +kernel
theorem d_law_1345 : decode code 1345 = .ok (.ifCond .ne 15, 3) := by decide +kernel
theorem d_law_1348 : decode code 1348 = .ok (.aload_n 3, 1) := by decide +kernel
theorem d_law_1349 : decode code 1349 = .ok (.iconst 0, 1) := by decide +kernel
theorem d_law_1350 : decode code 1350 = .ok (.laload, 1) := by decide +kernel
theorem d_law_1351 : decode code 1351 = .ok (.iload 6, 2) := by decide +kernel
theorem d_law_1353 : decode code 1353 = .ok (.i2l, 1) := by decide +kernel
theorem d_law_1354 : decode code 1354 = .ok (.lcmp, 1) := by decide +kernel
theorem d_law_1355 : decode code 1355 = .ok (.ifCond .eq 5, 3) := by decide +kernel
theorem d_law_1358 : decode code 1358 = .ok (.iconst 0, 1) := by decide +kernel
theorem d_law_1359 : decode code 1359 = .ok (.ireturn, 1) := by decide +kernel
theorem d_law_1360 : decode code 1360 = .ok (.goto 3, 3) := by decide +kernel
theorem d_law_1363 : decode code 1363 = .ok (.iinc 4 5, 3) := by decide +kernel
theorem d_law_1366 : decode code 1366 = .ok (.goto (-1343), 3) := by decide +kernel
theorem d_law_1369 : decode code 1369 = .ok (.iconst 1, 1) := by decide +kernel
theorem d_law_1370 : decode code 1370 = .ok (.ireturn, 1) := by decide +kernel
theorem w_link_eS : Jvm.Cond.classLink "LoanTermsLaw" 13 eS ∈ xTB := x_at_in (i := 142) (by decide +kernel) rfl
theorem w_cast_eS : Jvm.Cond.castable eS eS ∈ xTB2 := x_at_in2 (i := 150) (by decide +kernel) rfl
theorem w_link_eA : Jvm.Cond.classLink "LoanTermsLaw" 15 eA ∈ xTB := x_at_in (i := 143) (by decide +kernel) rfl
theorem w_cast_eA : Jvm.Cond.castable eA eA ∈ xTB2 := x_at_in2 (i := 218) (by decide +kernel) rfl
theorem w_link_eB : Jvm.Cond.classLink "LoanTermsLaw" 24 eB ∈ xTB := x_at_in (i := 378) (by decide +kernel) rfl
theorem w_cast_eB : Jvm.Cond.castable eB eB ∈ xTB2 := x_at_in2 (i := 389) (by decide +kernel) rfl
theorem w_ini : Jvm.Cond.initialized "LoanTermsLaw" ∈ xTB := x_at_in (i := 39) (by decide +kernel) rfl
theorem o_L_unit : xOk k_L_unit := x_ok (i := 1) rfl
theorem in_L_unit : Jvm.Cond.instanceMethod (xN k_L_unit) ∈ xTB := x_at_in (i := 145) (by decide +kernel) rfl
theorem se_L_unit : Jvm.Cond.selects (xN k_L_unit).cls (xN k_L_unit) (xN k_L_unit) ∈ xTB := x_at_in (i := 146) (by decide +kernel) rfl
theorem li_L_unit : Jvm.Cond.methodLink "LoanTermsLaw" 7 (xN k_L_unit) ∈ xTB := x_at_in (i := 144) (by decide +kernel) rfl
theorem o_L_read : xOk k_L_read := x_ok (i := 2) rfl
theorem in_L_read : Jvm.Cond.instanceMethod (xN k_L_read) ∈ xTB := x_at_in (i := 240) (by decide +kernel) rfl
theorem se_L_read : Jvm.Cond.selects (xN k_L_read).cls (xN k_L_read) (xN k_L_read) ∈ xTB := x_at_in (i := 241) (by decide +kernel) rfl
theorem li_L_read : Jvm.Cond.methodLink "LoanTermsLaw" 17 (xN k_L_read) ∈ xTB := x_at_in (i := 239) (by decide +kernel) rfl
theorem o_L_terms : xOk k_L_terms := x_ok (i := 3) rfl
theorem in_L_terms : Jvm.Cond.instanceMethod (xN k_L_terms) ∈ xTB := x_at_in (i := 380) (by decide +kernel) rfl
theorem se_L_terms : Jvm.Cond.selects (xN k_L_terms).cls (xN k_L_terms) (xN k_L_terms) ∈ xTB := x_at_in (i := 381) (by decide +kernel) rfl
theorem li_L_terms : Jvm.Cond.methodLink "LoanTermsLaw" 21 (xN k_L_terms) ∈ xTB := x_at_in (i := 379) (by decide +kernel) rfl
theorem o_L_written : xOk k_L_written := x_ok (i := 4) rfl
theorem in_L_written : Jvm.Cond.instanceMethod (xN k_L_written) ∈ xTB := x_at_in (i := 407) (by decide +kernel) rfl
theorem se_L_written : Jvm.Cond.selects (xN k_L_written).cls (xN k_L_written) (xN k_L_written) ∈ xTB := x_at_in (i := 408) (by decide +kernel) rfl
theorem li_L_written : Jvm.Cond.methodLink "LoanTermsLaw" 26 (xN k_L_written) ∈ xTB := x_at_in (i := 406) (by decide +kernel) rfl
theorem o_L_input : xOk k_L_input := x_ok (i := 5) rfl
theorem in_L_input : Jvm.Cond.instanceMethod (xN k_L_input) ∈ xTB := x_at_in (i := 419) (by decide +kernel) rfl
theorem se_L_input : Jvm.Cond.selects (xN k_L_input).cls (xN k_L_input) (xN k_L_input) ∈ xTB := x_at_in (i := 420) (by decide +kernel) rfl
theorem li_L_input : Jvm.Cond.methodLink "LoanTermsLaw" 30 (xN k_L_input) ∈ xTB := x_at_in (i := 418) (by decide +kernel) rfl
theorem o_L_fails : xOk k_L_fails := x_ok (i := 6) rfl
theorem in_L_fails : Jvm.Cond.instanceMethod (xN k_L_fails) ∈ xTB := x_at_in (i := 446) (by decide +kernel) rfl
theorem se_L_fails : Jvm.Cond.selects (xN k_L_fails).cls (xN k_L_fails) (xN k_L_fails) ∈ xTB := x_at_in (i := 447) (by decide +kernel) rfl
theorem li_L_fails : Jvm.Cond.methodLink "LoanTermsLaw" 34 (xN k_L_fails) ∈ xTB := x_at_in (i := 445) (by decide +kernel) rfl
theorem o_L_loan : xOk k_L_loan := x_ok (i := 7) rfl
theorem in_L_loan : Jvm.Cond.instanceMethod (xN k_L_loan) ∈ xTB := x_at_in (i := 454) (by decide +kernel) rfl
theorem se_L_loan : Jvm.Cond.selects (xN k_L_loan).cls (xN k_L_loan) (xN k_L_loan) ∈ xTB := x_at_in (i := 455) (by decide +kernel) rfl
theorem li_L_loan : Jvm.Cond.methodLink "LoanTermsLaw" 38 (xN k_L_loan) ∈ xTB := x_at_in (i := 453) (by decide +kernel) rfl
theorem o_L_shield : xOk k_L_shield := x_ok (i := 8) rfl
theorem in_L_shield : Jvm.Cond.instanceMethod (xN k_L_shield) ∈ xTB := x_at_in (i := 538) (by decide +kernel) rfl
theorem se_L_shield : Jvm.Cond.selects (xN k_L_shield).cls (xN k_L_shield) (xN k_L_shield) ∈ xTB := x_at_in (i := 539) (by decide +kernel) rfl
theorem li_L_shield : Jvm.Cond.methodLink "LoanTermsLaw" 42 (xN k_L_shield) ∈ xTB := x_at_in (i := 537) (by decide +kernel) rfl
theorem o_L_ask : xOk k_L_ask := x_ok (i := 9) rfl
theorem in_L_ask : Jvm.Cond.instanceMethod (xN k_L_ask) ∈ xTB := x_at_in (i := 545) (by decide +kernel) rfl
theorem se_L_ask : Jvm.Cond.selects (xN k_L_ask).cls (xN k_L_ask) (xN k_L_ask) ∈ xTB := x_at_in (i := 546) (by decide +kernel) rfl
theorem li_L_ask : Jvm.Cond.methodLink "LoanTermsLaw" 46 (xN k_L_ask) ∈ xTB := x_at_in (i := 544) (by decide +kernel) rfl
theorem o_L_open : xOk k_L_open := x_ok (i := 10) rfl
theorem in_L_open : Jvm.Cond.instanceMethod (xN k_L_open) ∈ xTB := x_at_in (i := 595) (by decide +kernel) rfl
theorem se_L_open : Jvm.Cond.selects (xN k_L_open).cls (xN k_L_open) (xN k_L_open) ∈ xTB := x_at_in (i := 596) (by decide +kernel) rfl
theorem li_L_open : Jvm.Cond.methodLink "LoanTermsLaw" 49 (xN k_L_open) ∈ xTB := x_at_in (i := 594) (by decide +kernel) rfl
theorem o_L_told : xOk k_L_told := x_ok (i := 11) rfl
theorem in_L_told : Jvm.Cond.instanceMethod (xN k_L_told) ∈ xTB := x_at_in (i := 603) (by decide +kernel) rfl
theorem se_L_told : Jvm.Cond.selects (xN k_L_told).cls (xN k_L_told) (xN k_L_told) ∈ xTB := x_at_in (i := 604) (by decide +kernel) rfl
theorem li_L_told : Jvm.Cond.methodLink "LoanTermsLaw" 52 (xN k_L_told) ∈ xTB := x_at_in (i := 602) (by decide +kernel) rfl
theorem o_L_extend : xOk k_L_extend := x_ok (i := 12) rfl
theorem in_L_extend : Jvm.Cond.instanceMethod (xN k_L_extend) ∈ xTB := x_at_in (i := 611) (by decide +kernel) rfl
theorem se_L_extend : Jvm.Cond.selects (xN k_L_extend).cls (xN k_L_extend) (xN k_L_extend) ∈ xTB := x_at_in (i := 612) (by decide +kernel) rfl
theorem li_L_extend : Jvm.Cond.methodLink "LoanTermsLaw" 55 (xN k_L_extend) ∈ xTB := x_at_in (i := 610) (by decide +kernel) rfl
theorem o_L_request : xOk k_L_request := x_ok (i := 13) rfl
theorem in_L_request : Jvm.Cond.instanceMethod (xN k_L_request) ∈ xTB := x_at_in (i := 618) (by decide +kernel) rfl
theorem se_L_request : Jvm.Cond.selects (xN k_L_request).cls (xN k_L_request) (xN k_L_request) ∈ xTB := x_at_in (i := 619) (by decide +kernel) rfl
theorem li_L_request : Jvm.Cond.methodLink "LoanTermsLaw" 58 (xN k_L_request) ∈ xTB := x_at_in (i := 617) (by decide +kernel) rfl
theorem o_L_clash : xOk k_L_clash := x_ok (i := 14) rfl
theorem in_L_clash : Jvm.Cond.instanceMethod (xN k_L_clash) ∈ xTB := x_at_in (i := 626) (by decide +kernel) rfl
theorem se_L_clash : Jvm.Cond.selects (xN k_L_clash).cls (xN k_L_clash) (xN k_L_clash) ∈ xTB := x_at_in (i := 627) (by decide +kernel) rfl
theorem li_L_clash : Jvm.Cond.methodLink "LoanTermsLaw" 61 (xN k_L_clash) ∈ xTB := x_at_in (i := 625) (by decide +kernel) rfl
theorem o_L_days : xOk k_L_days := x_ok (i := 15) rfl
theorem in_L_days : Jvm.Cond.instanceMethod (xN k_L_days) ∈ xTB := x_at_in (i := 641) (by decide +kernel) rfl
theorem se_L_days : Jvm.Cond.selects (xN k_L_days).cls (xN k_L_days) (xN k_L_days) ∈ xTB := x_at_in (i := 642) (by decide +kernel) rfl
theorem li_L_days : Jvm.Cond.methodLink "LoanTermsLaw" 64 (xN k_L_days) ∈ xTB := x_at_in (i := 640) (by decide +kernel) rfl
theorem o_L_fee : xOk k_L_fee := x_ok (i := 16) rfl
theorem in_L_fee : Jvm.Cond.instanceMethod (xN k_L_fee) ∈ xTB := x_at_in (i := 652) (by decide +kernel) rfl
theorem se_L_fee : Jvm.Cond.selects (xN k_L_fee).cls (xN k_L_fee) (xN k_L_fee) ∈ xTB := x_at_in (i := 653) (by decide +kernel) rfl
theorem li_L_fee : Jvm.Cond.methodLink "LoanTermsLaw" 67 (xN k_L_fee) ∈ xTB := x_at_in (i := 651) (by decide +kernel) rfl
theorem o_L_letter : xOk k_L_letter := x_ok (i := 17) rfl
theorem in_L_letter : Jvm.Cond.instanceMethod (xN k_L_letter) ∈ xTB := x_at_in (i := 664) (by decide +kernel) rfl
theorem se_L_letter : Jvm.Cond.selects (xN k_L_letter).cls (xN k_L_letter) (xN k_L_letter) ∈ xTB := x_at_in (i := 665) (by decide +kernel) rfl
theorem li_L_letter : Jvm.Cond.methodLink "LoanTermsLaw" 70 (xN k_L_letter) ∈ xTB := x_at_in (i := 663) (by decide +kernel) rfl
theorem o_L_count : xOk k_L_count := x_ok (i := 18) rfl
theorem in_L_count : Jvm.Cond.instanceMethod (xN k_L_count) ∈ xTB := x_at_in (i := 672) (by decide +kernel) rfl
theorem se_L_count : Jvm.Cond.selects (xN k_L_count).cls (xN k_L_count) (xN k_L_count) ∈ xTB := x_at_in (i := 673) (by decide +kernel) rfl
theorem li_L_count : Jvm.Cond.methodLink "LoanTermsLaw" 73 (xN k_L_count) ∈ xTB := x_at_in (i := 671) (by decide +kernel) rfl
theorem o_L_init : xOk k_L_init := x_ok (i := 0) rfl
theorem in_L_init : Jvm.Cond.instanceMethod (xN k_L_init) ∈ xTB := x_at_in (i := 58) (by decide +kernel) rfl
theorem li_L_init : Jvm.Cond.methodLink "LoanTermsLaw" 76 (xN k_L_init) ∈ xTB := x_at_in (i := 57) (by decide +kernel) rfl
theorem o_M_init : xOk k_M_init := x_ok (i := 71) rfl
theorem in_M_init : Jvm.Cond.instanceMethod (xN k_M_init) ∈ xTB := x_at_in (i := 683) (by decide +kernel) rfl
theorem li_M_init : Jvm.Cond.methodLink "LoanTermsLaw" 79 (xN k_M_init) ∈ xTB := x_at_in (i := 682) (by decide +kernel) rfl
theorem li_u_unit : Jvm.Cond.methodLink "LoanTermsLaw" 80 ⟨"LoanTermsLaw", "unit", "(LLoanTerms;I[J)I"⟩ ∈ xTB := x_at_in (i := 139) (by decide +kernel) rfl
theorem o_M_unit : xOk k_M_unit := x_ok (i := 78) rfl
theorem in_M_unit : Jvm.Cond.instanceMethod (xN k_M_unit) ∈ xTB := x_at_in (i := 803) (by decide +kernel) rfl
theorem se_M_unit : Jvm.Cond.selects (xN k_M_unit).cls (xN k_M_unit) (xN k_M_unit) ∈ xTB := x_at_in (i := 804) (by decide +kernel) rfl
theorem li_M_unit : Jvm.Cond.methodLink "LoanTermsLaw" 85 (xN k_M_unit) ∈ xTB := x_at_in (i := 802) (by decide +kernel) rfl
theorem o_M_thrown : xOk k_M_thrown := x_ok (i := 72) rfl
theorem in_M_thrown : Jvm.Cond.instanceMethod (xN k_M_thrown) ∈ xTB := x_at_in (i := 799) (by decide +kernel) rfl
theorem se_M_thrown : Jvm.Cond.selects (xN k_M_thrown).cls (xN k_M_thrown) (xN k_M_thrown) ∈ xTB := x_at_in (i := 800) (by decide +kernel) rfl
theorem li_M_thrown : Jvm.Cond.methodLink "LoanTermsLaw" 86 (xN k_M_thrown) ∈ xTB := x_at_in (i := 798) (by decide +kernel) rfl
theorem li_u_read : Jvm.Cond.methodLink "LoanTermsLaw" 89 ⟨"LoanTermsLaw", "read", "(LLoanTerms;[J)I"⟩ ∈ xTB := x_at_in (i := 236) (by decide +kernel) rfl
theorem o_M_read : xOk k_M_read := x_ok (i := 85) rfl
theorem in_M_read : Jvm.Cond.instanceMethod (xN k_M_read) ∈ xTB := x_at_in (i := 814) (by decide +kernel) rfl
theorem se_M_read : Jvm.Cond.selects (xN k_M_read).cls (xN k_M_read) (xN k_M_read) ∈ xTB := x_at_in (i := 815) (by decide +kernel) rfl
theorem li_M_read : Jvm.Cond.methodLink "LoanTermsLaw" 92 (xN k_M_read) ∈ xTB := x_at_in (i := 813) (by decide +kernel) rfl
theorem li_u_terms : Jvm.Cond.methodLink "LoanTermsLaw" 93 ⟨"LoanTermsLaw", "terms", "(LLoanTerms;I[J)I"⟩ ∈ xTB := x_at_in (i := 375) (by decide +kernel) rfl
theorem o_M_terms : xOk k_M_terms := x_ok (i := 87) rfl
theorem in_M_terms : Jvm.Cond.instanceMethod (xN k_M_terms) ∈ xTB := x_at_in (i := 840) (by decide +kernel) rfl
theorem se_M_terms : Jvm.Cond.selects (xN k_M_terms).cls (xN k_M_terms) (xN k_M_terms) ∈ xTB := x_at_in (i := 841) (by decide +kernel) rfl
theorem li_M_terms : Jvm.Cond.methodLink "LoanTermsLaw" 95 (xN k_M_terms) ∈ xTB := x_at_in (i := 839) (by decide +kernel) rfl
theorem li_u_written : Jvm.Cond.methodLink "LoanTermsLaw" 96 ⟨"LoanTermsLaw", "written", "(LLoanTerms;II[J)I"⟩ ∈ xTB := x_at_in (i := 403) (by decide +kernel) rfl
theorem o_M_written : xOk k_M_written := x_ok (i := 93) rfl
theorem in_M_written : Jvm.Cond.instanceMethod (xN k_M_written) ∈ xTB := x_at_in (i := 848) (by decide +kernel) rfl
theorem se_M_written : Jvm.Cond.selects (xN k_M_written).cls (xN k_M_written) (xN k_M_written) ∈ xTB := x_at_in (i := 849) (by decide +kernel) rfl
theorem li_M_written : Jvm.Cond.methodLink "LoanTermsLaw" 99 (xN k_M_written) ∈ xTB := x_at_in (i := 847) (by decide +kernel) rfl
theorem li_u_input : Jvm.Cond.methodLink "LoanTermsLaw" 100 ⟨"LoanTermsLaw", "input", "(LLoanTerms;III[J)I"⟩ ∈ xTB := x_at_in (i := 415) (by decide +kernel) rfl
theorem o_M_input : xOk k_M_input := x_ok (i := 94) rfl
theorem in_M_input : Jvm.Cond.instanceMethod (xN k_M_input) ∈ xTB := x_at_in (i := 872) (by decide +kernel) rfl
theorem se_M_input : Jvm.Cond.selects (xN k_M_input).cls (xN k_M_input) (xN k_M_input) ∈ xTB := x_at_in (i := 873) (by decide +kernel) rfl
theorem li_M_input : Jvm.Cond.methodLink "LoanTermsLaw" 103 (xN k_M_input) ∈ xTB := x_at_in (i := 871) (by decide +kernel) rfl
theorem li_u_fails : Jvm.Cond.methodLink "LoanTermsLaw" 104 ⟨"LoanTermsLaw", "fails", "(LLoanTerms;III)I"⟩ ∈ xTB := x_at_in (i := 442) (by decide +kernel) rfl
theorem o_M_fails : xOk k_M_fails := x_ok (i := 95) rfl
theorem in_M_fails : Jvm.Cond.instanceMethod (xN k_M_fails) ∈ xTB := x_at_in (i := 878) (by decide +kernel) rfl
theorem se_M_fails : Jvm.Cond.selects (xN k_M_fails).cls (xN k_M_fails) (xN k_M_fails) ∈ xTB := x_at_in (i := 879) (by decide +kernel) rfl
theorem li_M_fails : Jvm.Cond.methodLink "LoanTermsLaw" 107 (xN k_M_fails) ∈ xTB := x_at_in (i := 877) (by decide +kernel) rfl
theorem li_u_loan : Jvm.Cond.methodLink "LoanTermsLaw" 108 ⟨"LoanTermsLaw", "loan", "(LLoanTerms;IIII[J)I"⟩ ∈ xTB := x_at_in (i := 450) (by decide +kernel) rfl
theorem o_M_loan : xOk k_M_loan := x_ok (i := 98) rfl
theorem in_M_loan : Jvm.Cond.instanceMethod (xN k_M_loan) ∈ xTB := x_at_in (i := 882) (by decide +kernel) rfl
theorem se_M_loan : Jvm.Cond.selects (xN k_M_loan).cls (xN k_M_loan) (xN k_M_loan) ∈ xTB := x_at_in (i := 883) (by decide +kernel) rfl
theorem li_M_loan : Jvm.Cond.methodLink "LoanTermsLaw" 111 (xN k_M_loan) ∈ xTB := x_at_in (i := 881) (by decide +kernel) rfl
theorem li_u_shield : Jvm.Cond.methodLink "LoanTermsLaw" 112 ⟨"LoanTermsLaw", "shield", "(LLoanTerms;IZ[J)I"⟩ ∈ xTB := x_at_in (i := 534) (by decide +kernel) rfl
theorem o_M_shield : xOk k_M_shield := x_ok (i := 99) rfl
theorem in_M_shield : Jvm.Cond.instanceMethod (xN k_M_shield) ∈ xTB := x_at_in (i := 897) (by decide +kernel) rfl
theorem se_M_shield : Jvm.Cond.selects (xN k_M_shield).cls (xN k_M_shield) (xN k_M_shield) ∈ xTB := x_at_in (i := 898) (by decide +kernel) rfl
theorem li_M_shield : Jvm.Cond.methodLink "LoanTermsLaw" 115 (xN k_M_shield) ∈ xTB := x_at_in (i := 896) (by decide +kernel) rfl
theorem li_u_ask : Jvm.Cond.methodLink "LoanTermsLaw" 116 ⟨"LoanTermsLaw", "ask", "(LLoanTerms;II[J)I"⟩ ∈ xTB := x_at_in (i := 541) (by decide +kernel) rfl
theorem o_M_ask : xOk k_M_ask := x_ok (i := 102) rfl
theorem in_M_ask : Jvm.Cond.instanceMethod (xN k_M_ask) ∈ xTB := x_at_in (i := 905) (by decide +kernel) rfl
theorem se_M_ask : Jvm.Cond.selects (xN k_M_ask).cls (xN k_M_ask) (xN k_M_ask) ∈ xTB := x_at_in (i := 906) (by decide +kernel) rfl
theorem li_M_ask : Jvm.Cond.methodLink "LoanTermsLaw" 118 (xN k_M_ask) ∈ xTB := x_at_in (i := 904) (by decide +kernel) rfl
theorem li_u_open : Jvm.Cond.methodLink "LoanTermsLaw" 119 ⟨"LoanTermsLaw", "open", "(LLoanTerms;III[J)I"⟩ ∈ xTB := x_at_in (i := 591) (by decide +kernel) rfl
theorem o_M_open : xOk k_M_open := x_ok (i := 103) rfl
theorem in_M_open : Jvm.Cond.instanceMethod (xN k_M_open) ∈ xTB := x_at_in (i := 921) (by decide +kernel) rfl
theorem se_M_open : Jvm.Cond.selects (xN k_M_open).cls (xN k_M_open) (xN k_M_open) ∈ xTB := x_at_in (i := 922) (by decide +kernel) rfl
theorem li_M_open : Jvm.Cond.methodLink "LoanTermsLaw" 121 (xN k_M_open) ∈ xTB := x_at_in (i := 920) (by decide +kernel) rfl
theorem li_u_told : Jvm.Cond.methodLink "LoanTermsLaw" 122 ⟨"LoanTermsLaw", "told", "(LLoanTerms;III[J)I"⟩ ∈ xTB := x_at_in (i := 599) (by decide +kernel) rfl
theorem o_M_told : xOk k_M_told := x_ok (i := 104) rfl
theorem in_M_told : Jvm.Cond.instanceMethod (xN k_M_told) ∈ xTB := x_at_in (i := 925) (by decide +kernel) rfl
theorem se_M_told : Jvm.Cond.selects (xN k_M_told).cls (xN k_M_told) (xN k_M_told) ∈ xTB := x_at_in (i := 926) (by decide +kernel) rfl
theorem li_M_told : Jvm.Cond.methodLink "LoanTermsLaw" 124 (xN k_M_told) ∈ xTB := x_at_in (i := 924) (by decide +kernel) rfl
theorem li_u_extend : Jvm.Cond.methodLink "LoanTermsLaw" 125 ⟨"LoanTermsLaw", "extend", "(LLoanTerms;III[J)I"⟩ ∈ xTB := x_at_in (i := 607) (by decide +kernel) rfl
theorem o_M_extend : xOk k_M_extend := x_ok (i := 105) rfl
theorem in_M_extend : Jvm.Cond.instanceMethod (xN k_M_extend) ∈ xTB := x_at_in (i := 929) (by decide +kernel) rfl
theorem se_M_extend : Jvm.Cond.selects (xN k_M_extend).cls (xN k_M_extend) (xN k_M_extend) ∈ xTB := x_at_in (i := 930) (by decide +kernel) rfl
theorem li_M_extend : Jvm.Cond.methodLink "LoanTermsLaw" 127 (xN k_M_extend) ∈ xTB := x_at_in (i := 928) (by decide +kernel) rfl
theorem li_u_request : Jvm.Cond.methodLink "LoanTermsLaw" 128 ⟨"LoanTermsLaw", "request", "(LLoanTerms;III[J)I"⟩ ∈ xTB := x_at_in (i := 614) (by decide +kernel) rfl
theorem o_M_request : xOk k_M_request := x_ok (i := 106) rfl
theorem in_M_request : Jvm.Cond.instanceMethod (xN k_M_request) ∈ xTB := x_at_in (i := 933) (by decide +kernel) rfl
theorem se_M_request : Jvm.Cond.selects (xN k_M_request).cls (xN k_M_request) (xN k_M_request) ∈ xTB := x_at_in (i := 934) (by decide +kernel) rfl
theorem li_M_request : Jvm.Cond.methodLink "LoanTermsLaw" 130 (xN k_M_request) ∈ xTB := x_at_in (i := 932) (by decide +kernel) rfl
theorem li_u_clash : Jvm.Cond.methodLink "LoanTermsLaw" 131 ⟨"LoanTermsLaw", "clash", "(LLoanTerms;II[J)I"⟩ ∈ xTB := x_at_in (i := 622) (by decide +kernel) rfl
theorem o_M_clash : xOk k_M_clash := x_ok (i := 108) rfl
theorem in_M_clash : Jvm.Cond.instanceMethod (xN k_M_clash) ∈ xTB := x_at_in (i := 937) (by decide +kernel) rfl
theorem se_M_clash : Jvm.Cond.selects (xN k_M_clash).cls (xN k_M_clash) (xN k_M_clash) ∈ xTB := x_at_in (i := 938) (by decide +kernel) rfl
theorem li_M_clash : Jvm.Cond.methodLink "LoanTermsLaw" 133 (xN k_M_clash) ∈ xTB := x_at_in (i := 936) (by decide +kernel) rfl
theorem li_u_days : Jvm.Cond.methodLink "LoanTermsLaw" 134 ⟨"LoanTermsLaw", "days", "(LLoanTerms;I[J)I"⟩ ∈ xTB := x_at_in (i := 637) (by decide +kernel) rfl
theorem o_M_days : xOk k_M_days := x_ok (i := 110) rfl
theorem in_M_days : Jvm.Cond.instanceMethod (xN k_M_days) ∈ xTB := x_at_in (i := 945) (by decide +kernel) rfl
theorem se_M_days : Jvm.Cond.selects (xN k_M_days).cls (xN k_M_days) (xN k_M_days) ∈ xTB := x_at_in (i := 946) (by decide +kernel) rfl
theorem li_M_days : Jvm.Cond.methodLink "LoanTermsLaw" 136 (xN k_M_days) ∈ xTB := x_at_in (i := 944) (by decide +kernel) rfl
theorem li_u_fee : Jvm.Cond.methodLink "LoanTermsLaw" 137 ⟨"LoanTermsLaw", "fee", "(LLoanTerms;I[J)I"⟩ ∈ xTB := x_at_in (i := 648) (by decide +kernel) rfl
theorem o_M_fee : xOk k_M_fee := x_ok (i := 112) rfl
theorem in_M_fee : Jvm.Cond.instanceMethod (xN k_M_fee) ∈ xTB := x_at_in (i := 953) (by decide +kernel) rfl
theorem se_M_fee : Jvm.Cond.selects (xN k_M_fee).cls (xN k_M_fee) (xN k_M_fee) ∈ xTB := x_at_in (i := 954) (by decide +kernel) rfl
theorem li_M_fee : Jvm.Cond.methodLink "LoanTermsLaw" 139 (xN k_M_fee) ∈ xTB := x_at_in (i := 952) (by decide +kernel) rfl
theorem li_u_letter : Jvm.Cond.methodLink "LoanTermsLaw" 140 ⟨"LoanTermsLaw", "letter", "(LLoanTerms;II[J)I"⟩ ∈ xTB := x_at_in (i := 660) (by decide +kernel) rfl
theorem o_M_letter : xOk k_M_letter := x_ok (i := 114) rfl
theorem in_M_letter : Jvm.Cond.instanceMethod (xN k_M_letter) ∈ xTB := x_at_in (i := 961) (by decide +kernel) rfl
theorem se_M_letter : Jvm.Cond.selects (xN k_M_letter).cls (xN k_M_letter) (xN k_M_letter) ∈ xTB := x_at_in (i := 962) (by decide +kernel) rfl
theorem li_M_letter : Jvm.Cond.methodLink "LoanTermsLaw" 142 (xN k_M_letter) ∈ xTB := x_at_in (i := 960) (by decide +kernel) rfl
theorem li_u_count : Jvm.Cond.methodLink "LoanTermsLaw" 143 ⟨"LoanTermsLaw", "count", "(LLoanTerms;I[J)I"⟩ ∈ xTB := x_at_in (i := 668) (by decide +kernel) rfl
theorem o_M_count : xOk k_M_count := x_ok (i := 115) rfl
theorem in_M_count : Jvm.Cond.instanceMethod (xN k_M_count) ∈ xTB := x_at_in (i := 969) (by decide +kernel) rfl
theorem se_M_count : Jvm.Cond.selects (xN k_M_count).cls (xN k_M_count) (xN k_M_count) ∈ xTB := x_at_in (i := 970) (by decide +kernel) rfl
theorem li_M_count : Jvm.Cond.methodLink "LoanTermsLaw" 145 (xN k_M_count) ∈ xTB := x_at_in (i := 968) (by decide +kernel) rfl
abbrev y_unit : MethodName := ⟨"LoanTermsLaw", "unit", "(LLoanTerms;I[J)I"⟩
theorem co_unit : Jvm.Cond.codeWith y_unit method_3_code 4 (some .int) [(0, 9, 12, 13), (0, 9, 15, 15)] ∈ xTB := x_at_in (i := 141) (by decide +kernel) rfl
theorem stt_unit : Jvm.Cond.static y_unit ∈ xTB := x_at_in (i := 140) (by decide +kernel) rfl
abbrev y_read : MethodName := ⟨"LoanTermsLaw", "read", "(LLoanTerms;[J)I"⟩
theorem co_read : Jvm.Cond.codeWith y_read method_4_code 3 (some .int) [(0, 8, 11, 13)] ∈ xTB := x_at_in (i := 238) (by decide +kernel) rfl
theorem stt_read : Jvm.Cond.static y_read ∈ xTB := x_at_in (i := 237) (by decide +kernel) rfl
abbrev y_terms : MethodName := ⟨"LoanTermsLaw", "terms", "(LLoanTerms;I[J)I"⟩
theorem co_terms : Jvm.Cond.codeWith y_terms method_5_code 4 (some .int) [(0, 9, 12, 24)] ∈ xTB := x_at_in (i := 377) (by decide +kernel) rfl
theorem stt_terms : Jvm.Cond.static y_terms ∈ xTB := x_at_in (i := 376) (by decide +kernel) rfl
abbrev y_written : MethodName := ⟨"LoanTermsLaw", "written", "(LLoanTerms;II[J)I"⟩
theorem co_written : Jvm.Cond.codeWith y_written method_6_code 5 (some .int) [(0, 10, 13, 24)] ∈ xTB := x_at_in (i := 405) (by decide +kernel) rfl
theorem stt_written : Jvm.Cond.static y_written ∈ xTB := x_at_in (i := 404) (by decide +kernel) rfl
abbrev y_input : MethodName := ⟨"LoanTermsLaw", "input", "(LLoanTerms;III[J)I"⟩
theorem co_input : Jvm.Cond.codeWith y_input method_7_code 6 (some .int) [(0, 12, 15, 24), (0, 12, 19, 13), (0, 12, 23, 15)] ∈ xTB := x_at_in (i := 417) (by decide +kernel) rfl
theorem stt_input : Jvm.Cond.static y_input ∈ xTB := x_at_in (i := 416) (by decide +kernel) rfl
abbrev y_fails : MethodName := ⟨"LoanTermsLaw", "fails", "(LLoanTerms;III)I"⟩
theorem co_fails : Jvm.Cond.codeWith y_fails method_8_code 5 (some .int) [(0, 7, 10, 24), (0, 7, 14, 15)] ∈ xTB := x_at_in (i := 444) (by decide +kernel) rfl
theorem stt_fails : Jvm.Cond.static y_fails ∈ xTB := x_at_in (i := 443) (by decide +kernel) rfl
abbrev y_loan : MethodName := ⟨"LoanTermsLaw", "loan", "(LLoanTerms;IIII[J)I"⟩
theorem co_loan : Jvm.Cond.codeWith y_loan method_9_code 7 (some .int) [(0, 14, 17, 24), (0, 14, 21, 13), (0, 14, 25, 15)] ∈ xTB := x_at_in (i := 452) (by decide +kernel) rfl
theorem stt_loan : Jvm.Cond.static y_loan ∈ xTB := x_at_in (i := 451) (by decide +kernel) rfl
abbrev y_shield : MethodName := ⟨"LoanTermsLaw", "shield", "(LLoanTerms;IZ[J)I"⟩
theorem co_shield : Jvm.Cond.codeWith y_shield method_10_code 5 (some .int) [(0, 17, 20, 24)] ∈ xTB := x_at_in (i := 536) (by decide +kernel) rfl
theorem stt_shield : Jvm.Cond.static y_shield ∈ xTB := x_at_in (i := 535) (by decide +kernel) rfl
abbrev y_ask : MethodName := ⟨"LoanTermsLaw", "ask", "(LLoanTerms;II[J)I"⟩
theorem co_ask : Jvm.Cond.codeWith y_ask method_11_code 5 (some .int) [(0, 10, 13, 24), (0, 10, 17, 15)] ∈ xTB := x_at_in (i := 543) (by decide +kernel) rfl
theorem stt_ask : Jvm.Cond.static y_ask ∈ xTB := x_at_in (i := 542) (by decide +kernel) rfl
abbrev y_open : MethodName := ⟨"LoanTermsLaw", "open", "(LLoanTerms;III[J)I"⟩
theorem co_open : Jvm.Cond.codeWith y_open method_12_code 6 (some .int) [(0, 12, 15, 24), (0, 12, 19, 15)] ∈ xTB := x_at_in (i := 593) (by decide +kernel) rfl
theorem stt_open : Jvm.Cond.static y_open ∈ xTB := x_at_in (i := 592) (by decide +kernel) rfl
abbrev y_told : MethodName := ⟨"LoanTermsLaw", "told", "(LLoanTerms;III[J)I"⟩
theorem co_told : Jvm.Cond.codeWith y_told method_13_code 6 (some .int) [(0, 12, 15, 24)] ∈ xTB := x_at_in (i := 601) (by decide +kernel) rfl
theorem stt_told : Jvm.Cond.static y_told ∈ xTB := x_at_in (i := 600) (by decide +kernel) rfl
abbrev y_extend : MethodName := ⟨"LoanTermsLaw", "extend", "(LLoanTerms;III[J)I"⟩
theorem co_extend : Jvm.Cond.codeWith y_extend method_14_code 6 (some .int) [(0, 12, 15, 24), (0, 12, 19, 15)] ∈ xTB := x_at_in (i := 609) (by decide +kernel) rfl
theorem stt_extend : Jvm.Cond.static y_extend ∈ xTB := x_at_in (i := 608) (by decide +kernel) rfl
abbrev y_request : MethodName := ⟨"LoanTermsLaw", "request", "(LLoanTerms;III[J)I"⟩
theorem co_request : Jvm.Cond.codeWith y_request method_15_code 6 (some .int) [(0, 12, 15, 24), (0, 12, 19, 13), (0, 12, 23, 15)] ∈ xTB := x_at_in (i := 616) (by decide +kernel) rfl
theorem stt_request : Jvm.Cond.static y_request ∈ xTB := x_at_in (i := 615) (by decide +kernel) rfl
abbrev y_clash : MethodName := ⟨"LoanTermsLaw", "clash", "(LLoanTerms;II[J)I"⟩
theorem co_clash : Jvm.Cond.codeWith y_clash method_16_code 5 (some .int) [(0, 10, 13, 24)] ∈ xTB := x_at_in (i := 624) (by decide +kernel) rfl
theorem stt_clash : Jvm.Cond.static y_clash ∈ xTB := x_at_in (i := 623) (by decide +kernel) rfl
abbrev y_days : MethodName := ⟨"LoanTermsLaw", "days", "(LLoanTerms;I[J)I"⟩
theorem co_days : Jvm.Cond.codeWith y_days method_17_code 4 (some .int) [(0, 9, 12, 24)] ∈ xTB := x_at_in (i := 639) (by decide +kernel) rfl
theorem stt_days : Jvm.Cond.static y_days ∈ xTB := x_at_in (i := 638) (by decide +kernel) rfl
abbrev y_fee : MethodName := ⟨"LoanTermsLaw", "fee", "(LLoanTerms;I[J)I"⟩
theorem co_fee : Jvm.Cond.codeWith y_fee method_18_code 4 (some .int) [(0, 9, 12, 24)] ∈ xTB := x_at_in (i := 650) (by decide +kernel) rfl
theorem stt_fee : Jvm.Cond.static y_fee ∈ xTB := x_at_in (i := 649) (by decide +kernel) rfl
abbrev y_letter : MethodName := ⟨"LoanTermsLaw", "letter", "(LLoanTerms;II[J)I"⟩
theorem co_letter : Jvm.Cond.codeWith y_letter method_19_code 5 (some .int) [(0, 10, 13, 24)] ∈ xTB := x_at_in (i := 662) (by decide +kernel) rfl
theorem stt_letter : Jvm.Cond.static y_letter ∈ xTB := x_at_in (i := 661) (by decide +kernel) rfl
abbrev y_count : MethodName := ⟨"LoanTermsLaw", "count", "(LLoanTerms;I[J)I"⟩
theorem co_count : Jvm.Cond.codeWith y_count method_20_code 4 (some .int) [(0, 9, 12, 24)] ∈ xTB := x_at_in (i := 670) (by decide +kernel) rfl
theorem stt_count : Jvm.Cond.static y_count ∈ xTB := x_at_in (i := 669) (by decide +kernel) rfl
