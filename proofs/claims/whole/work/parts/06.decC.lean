theorem d_C_init_0 : decode c_C_init 0 = .ok (.aload_n 0, 1) := by decide +kernel
theorem d_C_init_1 : decode c_C_init 1 = .ok (.invokespecial 1, 3) := by decide +kernel
theorem d_C_init_4 : decode c_C_init 4 = .ok (.aload_n 0, 1) := by decide +kernel
theorem d_C_init_5 : decode c_C_init 5 = .ok (.new 7, 3) := by decide +kernel
theorem d_C_init_8 : decode c_C_init 8 = .ok (.dup, 1) := by decide +kernel
theorem d_C_init_9 : decode c_C_init 9 = .ok (.invokespecial 9, 3) := by decide +kernel
theorem d_C_init_12 : decode c_C_init 12 = .ok (.putfield 10, 3) := by decide +kernel
theorem d_C_init_15 : decode c_C_init 15 = .ok (.aload_n 0, 1) := by decide +kernel
theorem d_C_init_16 : decode c_C_init 16 = .ok (.new 16, 3) := by decide +kernel
theorem d_C_init_19 : decode c_C_init 19 = .ok (.dup, 1) := by decide +kernel
theorem d_C_init_20 : decode c_C_init 20 = .ok (.aload_n 0, 1) := by decide +kernel
theorem d_C_init_21 : decode c_C_init 21 = .ok (.getfield 10, 3) := by decide +kernel
theorem d_C_init_24 : decode c_C_init 24 = .ok (.invokespecial 18, 3) := by decide +kernel
theorem d_C_init_27 : decode c_C_init 27 = .ok (.putfield 21, 3) := by decide +kernel
theorem d_C_init_30 : decode c_C_init 30 = .ok (.aload_n 0, 1) := by decide +kernel
theorem d_C_init_31 : decode c_C_init 31 = .ok (.new 25, 3) := by decide +kernel
theorem d_C_init_34 : decode c_C_init 34 = .ok (.dup, 1) := by decide +kernel
theorem d_C_init_35 : decode c_C_init 35 = .ok (.aload_n 0, 1) := by decide +kernel
theorem d_C_init_36 : decode c_C_init 36 = .ok (.getfield 10, 3) := by decide +kernel
theorem d_C_init_39 : decode c_C_init 39 = .ok (.invokespecial 27, 3) := by decide +kernel
theorem d_C_init_42 : decode c_C_init 42 = .ok (.putfield 28, 3) := by decide +kernel
theorem d_C_init_45 : decode c_C_init 45 = .ok (.return_, 1) := by decide +kernel
theorem d_C_lambda_0 : decode c_C_lambda 0 = .ok (.aload_n 0, 1) := by decide +kernel
theorem d_C_lambda_1 : decode c_C_lambda 1 = .ok (.getfield 10, 3) := by decide +kernel
theorem d_C_lambda_4 : decode c_C_lambda 4 = .ok (.iload_n 1, 1) := by decide +kernel
theorem d_C_lambda_5 : decode c_C_lambda 5 = .ok (.iload_n 2, 1) := by decide +kernel
theorem d_C_lambda_6 : decode c_C_lambda 6 = .ok (.invokevirtual 32, 3) := by decide +kernel
theorem d_C_lambda_9 : decode c_C_lambda 9 = .ok (.istore_n 3, 1) := by decide +kernel
theorem d_C_lambda_10 : decode c_C_lambda 10 = .ok (.iload_n 3, 1) := by decide +kernel
theorem d_C_lambda_11 : decode c_C_lambda 11 = .ok (.iconst (-1), 1) := by decide +kernel
theorem d_C_lambda_12 : decode c_C_lambda 12 = .ok (.if_icmp .eq 7, 3) := by decide +kernel
theorem d_C_lambda_15 : decode c_C_lambda 15 = .ok (.aload_n 0, 1) := by decide +kernel
theorem d_C_lambda_16 : decode c_C_lambda 16 = .ok (.invokevirtual 36, 3) := by decide +kernel
theorem d_C_lambda_19 : decode c_C_lambda 19 = .ok (.iload_n 3, 1) := by decide +kernel
theorem d_C_lambda_20 : decode c_C_lambda 20 = .ok (.ireturn, 1) := by decide +kernel
theorem d_C_forgetRuns_0 : decode c_C_forgetRuns 0 = .ok (.aload_n 0, 1) := by decide +kernel
theorem d_C_forgetRuns_1 : decode c_C_forgetRuns 1 = .ok (.getfield 21, 3) := by decide +kernel
theorem d_C_forgetRuns_4 : decode c_C_forgetRuns 4 = .ok (.invokevirtual 113, 3) := by decide +kernel
theorem d_C_forgetRuns_7 : decode c_C_forgetRuns 7 = .ok (.aload_n 0, 1) := by decide +kernel
theorem d_C_forgetRuns_8 : decode c_C_forgetRuns 8 = .ok (.getfield 28, 3) := by decide +kernel
theorem d_C_forgetRuns_11 : decode c_C_forgetRuns 11 = .ok (.invokevirtual 116, 3) := by decide +kernel
theorem d_C_forgetRuns_14 : decode c_C_forgetRuns 14 = .ok (.return_, 1) := by decide +kernel
theorem d_C_put_0 : decode c_C_put 0 = .ok (.aload_n 0, 1) := by decide +kernel
theorem d_C_put_1 : decode c_C_put 1 = .ok (.getfield 10, 3) := by decide +kernel
theorem d_C_put_4 : decode c_C_put 4 = .ok (.iload_n 1, 1) := by decide +kernel
theorem d_C_put_5 : decode c_C_put 5 = .ok (.iload_n 2, 1) := by decide +kernel
theorem d_C_put_6 : decode c_C_put 6 = .ok (.invokevirtual 39, 3) := by decide +kernel
theorem d_C_put_9 : decode c_C_put 9 = .ok (.istore_n 3, 1) := by decide +kernel
theorem d_C_put_10 : decode c_C_put 10 = .ok (.iload_n 3, 1) := by decide +kernel
theorem d_C_put_11 : decode c_C_put 11 = .ok (.ifCond .eq 7, 3) := by decide +kernel
theorem d_C_put_14 : decode c_C_put 14 = .ok (.aload_n 0, 1) := by decide +kernel
theorem d_C_put_15 : decode c_C_put 15 = .ok (.invokevirtual 36, 3) := by decide +kernel
theorem d_C_put_18 : decode c_C_put 18 = .ok (.iload_n 3, 1) := by decide +kernel
theorem d_C_put_19 : decode c_C_put 19 = .ok (.ireturn, 1) := by decide +kernel
theorem d_C_isParameter_0 : decode c_C_isParameter 0 = .ok (.iload_n 0, 1) := by decide +kernel
theorem d_C_isParameter_1 : decode c_C_isParameter 1 = .ok (.bipush 100, 2) := by decide +kernel
theorem d_C_isParameter_3 : decode c_C_isParameter 3 = .ok (.if_icmp .lt 14, 3) := by decide +kernel
theorem d_C_isParameter_6 : decode c_C_isParameter 6 = .ok (.iload_n 0, 1) := by decide +kernel
theorem d_C_isParameter_7 : decode c_C_isParameter 7 = .ok (.sipush 180, 3) := by decide +kernel
theorem d_C_isParameter_10 : decode c_C_isParameter 10 = .ok (.if_icmp .ge 7, 3) := by decide +kernel
theorem d_C_isParameter_13 : decode c_C_isParameter 13 = .ok (.iconst 1, 1) := by decide +kernel
theorem d_C_isParameter_14 : decode c_C_isParameter 14 = .ok (.goto 4, 3) := by decide +kernel
theorem d_C_isParameter_17 : decode c_C_isParameter 17 = .ok (.iconst 0, 1) := by decide +kernel
theorem d_C_isParameter_18 : decode c_C_isParameter 18 = .ok (.ireturn, 1) := by decide +kernel
theorem d_C_lambdaOfParameter_0 : decode c_C_lambdaOfParameter 0 = .ok (.iload_n 0, 1) := by decide +kernel
theorem d_C_lambdaOfParameter_1 : decode c_C_lambdaOfParameter 1 = .ok (.bipush 100, 2) := by decide +kernel
theorem d_C_lambdaOfParameter_3 : decode c_C_lambdaOfParameter 3 = .ok (.isub, 1) := by decide +kernel
theorem d_C_lambdaOfParameter_4 : decode c_C_lambdaOfParameter 4 = .ok (.bipush 10, 2) := by decide +kernel
theorem d_C_lambdaOfParameter_6 : decode c_C_lambdaOfParameter 6 = .ok (.idiv, 1) := by decide +kernel
theorem d_C_lambdaOfParameter_7 : decode c_C_lambdaOfParameter 7 = .ok (.ireturn, 1) := by decide +kernel
theorem d_C_indexOfParameter_0 : decode c_C_indexOfParameter 0 = .ok (.iload_n 0, 1) := by decide +kernel
theorem d_C_indexOfParameter_1 : decode c_C_indexOfParameter 1 = .ok (.bipush 100, 2) := by decide +kernel
theorem d_C_indexOfParameter_3 : decode c_C_indexOfParameter 3 = .ok (.isub, 1) := by decide +kernel
theorem d_C_indexOfParameter_4 : decode c_C_indexOfParameter 4 = .ok (.bipush 10, 2) := by decide +kernel
theorem d_C_indexOfParameter_6 : decode c_C_indexOfParameter 6 = .ok (.irem, 1) := by decide +kernel
theorem d_C_indexOfParameter_7 : decode c_C_indexOfParameter 7 = .ok (.ireturn, 1) := by decide +kernel
theorem d_C_has_0 : decode c_C_has 0 = .ok (.iload_n 0, 1) := by decide +kernel
theorem d_C_has_1 : decode c_C_has 1 = .ok (.iload_n 1, 1) := by decide +kernel
theorem d_C_has_2 : decode c_C_has 2 = .ok (.iushr, 1) := by decide +kernel
theorem d_C_has_3 : decode c_C_has 3 = .ok (.iconst 1, 1) := by decide +kernel
theorem d_C_has_4 : decode c_C_has 4 = .ok (.iand, 1) := by decide +kernel
theorem d_C_has_5 : decode c_C_has 5 = .ok (.ifCond .eq 7, 3) := by decide +kernel
theorem d_C_has_8 : decode c_C_has 8 = .ok (.iconst 1, 1) := by decide +kernel
theorem d_C_has_9 : decode c_C_has 9 = .ok (.goto 4, 3) := by decide +kernel
theorem d_C_has_12 : decode c_C_has 12 = .ok (.iconst 0, 1) := by decide +kernel
theorem d_C_has_13 : decode c_C_has 13 = .ok (.ireturn, 1) := by decide +kernel
theorem d_C_isLambda_0 : decode c_C_isLambda 0 = .ok (.iload_n 0, 1) := by decide +kernel
theorem d_C_isLambda_1 : decode c_C_isLambda 1 = .ok (.sipush 200, 3) := by decide +kernel
theorem d_C_isLambda_4 : decode c_C_isLambda 4 = .ok (.if_icmp .lt 14, 3) := by decide +kernel
theorem d_C_isLambda_7 : decode c_C_isLambda 7 = .ok (.iload_n 0, 1) := by decide +kernel
theorem d_C_isLambda_8 : decode c_C_isLambda 8 = .ok (.sipush 208, 3) := by decide +kernel
theorem d_C_isLambda_11 : decode c_C_isLambda 11 = .ok (.if_icmp .ge 7, 3) := by decide +kernel
theorem d_C_isLambda_14 : decode c_C_isLambda 14 = .ok (.iconst 1, 1) := by decide +kernel
theorem d_C_isLambda_15 : decode c_C_isLambda 15 = .ok (.goto 4, 3) := by decide +kernel
theorem d_C_isLambda_18 : decode c_C_isLambda 18 = .ok (.iconst 0, 1) := by decide +kernel
theorem d_C_isLambda_19 : decode c_C_isLambda 19 = .ok (.ireturn, 1) := by decide +kernel
theorem d_C_isNumber_0 : decode c_C_isNumber 0 = .ok (.iload_n 0, 1) := by decide +kernel
theorem d_C_isNumber_1 : decode c_C_isNumber 1 = .ok (.ifCond .lt 13, 3) := by decide +kernel
theorem d_C_isNumber_4 : decode c_C_isNumber 4 = .ok (.iload_n 0, 1) := by decide +kernel
theorem d_C_isNumber_5 : decode c_C_isNumber 5 = .ok (.bipush 10, 2) := by decide +kernel
theorem d_C_isNumber_7 : decode c_C_isNumber 7 = .ok (.if_icmp .ge 7, 3) := by decide +kernel
theorem d_C_isNumber_10 : decode c_C_isNumber 10 = .ok (.iconst 1, 1) := by decide +kernel
theorem d_C_isNumber_11 : decode c_C_isNumber 11 = .ok (.goto 4, 3) := by decide +kernel
theorem d_C_isNumber_14 : decode c_C_isNumber 14 = .ok (.iconst 0, 1) := by decide +kernel
theorem d_C_isNumber_15 : decode c_C_isNumber 15 = .ok (.ireturn, 1) := by decide +kernel
theorem d_C_isPrimitive_0 : decode c_C_isPrimitive 0 = .ok (.iload_n 0, 1) := by decide +kernel
theorem d_C_isPrimitive_1 : decode c_C_isPrimitive 1 = .ok (.sipush 300, 3) := by decide +kernel
theorem d_C_isPrimitive_4 : decode c_C_isPrimitive 4 = .ok (.if_icmp .lt 14, 3) := by decide +kernel
theorem d_C_isPrimitive_7 : decode c_C_isPrimitive 7 = .ok (.iload_n 0, 1) := by decide +kernel
theorem d_C_isPrimitive_8 : decode c_C_isPrimitive 8 = .ok (.sipush 302, 3) := by decide +kernel
theorem d_C_isPrimitive_11 : decode c_C_isPrimitive 11 = .ok (.if_icmp .gt 7, 3) := by decide +kernel
theorem d_C_isPrimitive_14 : decode c_C_isPrimitive 14 = .ok (.iconst 1, 1) := by decide +kernel
theorem d_C_isPrimitive_15 : decode c_C_isPrimitive 15 = .ok (.goto 4, 3) := by decide +kernel
theorem d_C_isPrimitive_18 : decode c_C_isPrimitive 18 = .ok (.iconst 0, 1) := by decide +kernel
theorem d_C_isPrimitive_19 : decode c_C_isPrimitive 19 = .ok (.ireturn, 1) := by decide +kernel
theorem d_C_clear_0 : decode c_C_clear 0 = .ok (.aload_n 0, 1) := by decide +kernel
theorem d_C_clear_1 : decode c_C_clear 1 = .ok (.getfield 10, 3) := by decide +kernel
theorem d_C_clear_4 : decode c_C_clear 4 = .ok (.invokevirtual 43, 3) := by decide +kernel
theorem d_C_clear_7 : decode c_C_clear 7 = .ok (.aload_n 0, 1) := by decide +kernel
theorem d_C_clear_8 : decode c_C_clear 8 = .ok (.invokevirtual 36, 3) := by decide +kernel
theorem d_C_clear_11 : decode c_C_clear 11 = .ok (.return_, 1) := by decide +kernel
theorem d_C_lambdas_0 : decode c_C_lambdas 0 = .ok (.aload_n 0, 1) := by decide +kernel
theorem d_C_lambdas_1 : decode c_C_lambdas 1 = .ok (.getfield 10, 3) := by decide +kernel
theorem d_C_lambdas_4 : decode c_C_lambdas 4 = .ok (.invokevirtual 46, 3) := by decide +kernel
theorem d_C_lambdas_7 : decode c_C_lambdas 7 = .ok (.ireturn, 1) := by decide +kernel
theorem d_C_atom_0 : decode c_C_atom 0 = .ok (.aload_n 0, 1) := by decide +kernel
theorem d_C_atom_1 : decode c_C_atom 1 = .ok (.getfield 10, 3) := by decide +kernel
theorem d_C_atom_4 : decode c_C_atom 4 = .ok (.iload_n 1, 1) := by decide +kernel
theorem d_C_atom_5 : decode c_C_atom 5 = .ok (.iload_n 2, 1) := by decide +kernel
theorem d_C_atom_6 : decode c_C_atom 6 = .ok (.invokevirtual 50, 3) := by decide +kernel
theorem d_C_atom_9 : decode c_C_atom 9 = .ok (.ifCond .eq 15, 3) := by decide +kernel
theorem d_C_atom_12 : decode c_C_atom 12 = .ok (.aload_n 0, 1) := by decide +kernel
theorem d_C_atom_13 : decode c_C_atom 13 = .ok (.getfield 10, 3) := by decide +kernel
theorem d_C_atom_16 : decode c_C_atom 16 = .ok (.iload_n 1, 1) := by decide +kernel
theorem d_C_atom_17 : decode c_C_atom 17 = .ok (.iload_n 2, 1) := by decide +kernel
theorem d_C_atom_18 : decode c_C_atom 18 = .ok (.invokevirtual 53, 3) := by decide +kernel
theorem d_C_atom_21 : decode c_C_atom 21 = .ok (.goto 4, 3) := by decide +kernel
theorem d_C_atom_24 : decode c_C_atom 24 = .ok (.iconst (-1), 1) := by decide +kernel
theorem d_C_atom_25 : decode c_C_atom 25 = .ok (.ireturn, 1) := by decide +kernel
theorem d_C_start_0 : decode c_C_start 0 = .ok (.aload_n 0, 1) := by decide +kernel
theorem d_C_start_1 : decode c_C_start 1 = .ok (.getfield 21, 3) := by decide +kernel
theorem d_C_start_4 : decode c_C_start 4 = .ok (.invokevirtual 56, 3) := by decide +kernel
theorem d_C_start_7 : decode c_C_start 7 = .ok (.return_, 1) := by decide +kernel
theorem d_C_step_0 : decode c_C_step 0 = .ok (.iload_n 1, 1) := by decide +kernel
theorem d_C_step_1 : decode c_C_step 1 = .ok (.ifCond .lt 19, 3) := by decide +kernel
theorem d_C_step_4 : decode c_C_step 4 = .ok (.iload_n 1, 1) := by decide +kernel
theorem d_C_step_5 : decode c_C_step 5 = .ok (.bipush 100, 2) := by decide +kernel
theorem d_C_step_7 : decode c_C_step 7 = .ok (.if_icmp .gt 13, 3) := by decide +kernel
theorem d_C_step_10 : decode c_C_step 10 = .ok (.aload_n 0, 1) := by decide +kernel
theorem d_C_step_11 : decode c_C_step 11 = .ok (.getfield 21, 3) := by decide +kernel
theorem d_C_step_14 : decode c_C_step 14 = .ok (.invokevirtual 59, 3) := by decide +kernel
theorem d_C_step_17 : decode c_C_step 17 = .ok (.ifCond .ne 5, 3) := by decide +kernel
theorem d_C_step_20 : decode c_C_step 20 = .ok (.iconst (-1), 1) := by decide +kernel
theorem d_C_step_21 : decode c_C_step 21 = .ok (.ireturn, 1) := by decide +kernel
theorem d_C_step_22 : decode c_C_step 22 = .ok (.aload_n 0, 1) := by decide +kernel
theorem d_C_step_23 : decode c_C_step 23 = .ok (.getfield 21, 3) := by decide +kernel
theorem d_C_step_26 : decode c_C_step 26 = .ok (.iload_n 1, 1) := by decide +kernel
theorem d_C_step_27 : decode c_C_step 27 = .ok (.invokevirtual 63, 3) := by decide +kernel
theorem d_C_step_30 : decode c_C_step 30 = .ok (.ireturn, 1) := by decide +kernel
theorem d_C_told_0 : decode c_C_told 0 = .ok (.iload_n 0, 1) := by decide +kernel
theorem d_C_told_1 : decode c_C_told 1 = .ok (.sipush 1000, 3) := by decide +kernel
theorem d_C_told_4 : decode c_C_told 4 = .ok (.irem, 1) := by decide +kernel
theorem d_C_told_5 : decode c_C_told 5 = .ok (.ireturn, 1) := by decide +kernel
theorem d_C_state_0 : decode c_C_state 0 = .ok (.aload_n 0, 1) := by decide +kernel
theorem d_C_state_1 : decode c_C_state 1 = .ok (.getfield 21, 3) := by decide +kernel
theorem d_C_state_4 : decode c_C_state 4 = .ok (.invokevirtual 67, 3) := by decide +kernel
theorem d_C_state_7 : decode c_C_state 7 = .ok (.ireturn, 1) := by decide +kernel
theorem d_C_at_0 : decode c_C_at 0 = .ok (.aload_n 0, 1) := by decide +kernel
theorem d_C_at_1 : decode c_C_at 1 = .ok (.getfield 21, 3) := by decide +kernel
theorem d_C_at_4 : decode c_C_at 4 = .ok (.invokevirtual 59, 3) := by decide +kernel
theorem d_C_at_7 : decode c_C_at 7 = .ok (.ifCond .eq 13, 3) := by decide +kernel
theorem d_C_at_10 : decode c_C_at 10 = .ok (.aload_n 0, 1) := by decide +kernel
theorem d_C_at_11 : decode c_C_at 11 = .ok (.getfield 21, 3) := by decide +kernel
theorem d_C_at_14 : decode c_C_at 14 = .ok (.invokevirtual 70, 3) := by decide +kernel
theorem d_C_at_17 : decode c_C_at 17 = .ok (.goto 4, 3) := by decide +kernel
theorem d_C_at_20 : decode c_C_at 20 = .ok (.iconst (-1), 1) := by decide +kernel
theorem d_C_at_21 : decode c_C_at 21 = .ok (.ireturn, 1) := by decide +kernel
theorem d_C_value_0 : decode c_C_value 0 = .ok (.aload_n 0, 1) := by decide +kernel
theorem d_C_value_1 : decode c_C_value 1 = .ok (.getfield 21, 3) := by decide +kernel
theorem d_C_value_4 : decode c_C_value 4 = .ok (.invokevirtual 59, 3) := by decide +kernel
theorem d_C_value_7 : decode c_C_value 7 = .ok (.ifCond .eq 18, 3) := by decide +kernel
theorem d_C_value_10 : decode c_C_value 10 = .ok (.aload_n 0, 1) := by decide +kernel
theorem d_C_value_11 : decode c_C_value 11 = .ok (.getfield 21, 3) := by decide +kernel
theorem d_C_value_14 : decode c_C_value 14 = .ok (.iload_n 1, 1) := by decide +kernel
theorem d_C_value_15 : decode c_C_value 15 = .ok (.iload_n 2, 1) := by decide +kernel
theorem d_C_value_16 : decode c_C_value 16 = .ok (.invokevirtual 73, 3) := by decide +kernel
theorem d_C_value_19 : decode c_C_value 19 = .ok (.invokestatic 76, 3) := by decide +kernel
theorem d_C_value_22 : decode c_C_value 22 = .ok (.goto 4, 3) := by decide +kernel
theorem d_C_value_25 : decode c_C_value 25 = .ok (.iconst (-1), 1) := by decide +kernel
theorem d_C_value_26 : decode c_C_value 26 = .ok (.ireturn, 1) := by decide +kernel
theorem d_C_result_0 : decode c_C_result 0 = .ok (.aload_n 0, 1) := by decide +kernel
theorem d_C_result_1 : decode c_C_result 1 = .ok (.getfield 21, 3) := by decide +kernel
theorem d_C_result_4 : decode c_C_result 4 = .ok (.invokevirtual 67, 3) := by decide +kernel
theorem d_C_result_7 : decode c_C_result 7 = .ok (.iconst 2, 1) := by decide +kernel
theorem d_C_result_8 : decode c_C_result 8 = .ok (.if_icmp .ne 16, 3) := by decide +kernel
theorem d_C_result_11 : decode c_C_result 11 = .ok (.aload_n 0, 1) := by decide +kernel
theorem d_C_result_12 : decode c_C_result 12 = .ok (.getfield 21, 3) := by decide +kernel
theorem d_C_result_15 : decode c_C_result 15 = .ok (.invokevirtual 79, 3) := by decide +kernel
theorem d_C_result_18 : decode c_C_result 18 = .ok (.invokestatic 76, 3) := by decide +kernel
theorem d_C_result_21 : decode c_C_result 21 = .ok (.goto 4, 3) := by decide +kernel
theorem d_C_result_24 : decode c_C_result 24 = .ok (.iconst (-1), 1) := by decide +kernel
theorem d_C_result_25 : decode c_C_result 25 = .ok (.ireturn, 1) := by decide +kernel
theorem d_C_called_0 : decode c_C_called 0 = .ok (.aload_n 0, 1) := by decide +kernel
theorem d_C_called_1 : decode c_C_called 1 = .ok (.getfield 21, 3) := by decide +kernel
theorem d_C_called_4 : decode c_C_called 4 = .ok (.invokevirtual 59, 3) := by decide +kernel
theorem d_C_called_7 : decode c_C_called 7 = .ok (.ifCond .eq 25, 3) := by decide +kernel
theorem d_C_called_10 : decode c_C_called 10 = .ok (.aload_n 0, 1) := by decide +kernel
theorem d_C_called_11 : decode c_C_called 11 = .ok (.getfield 10, 3) := by decide +kernel
theorem d_C_called_14 : decode c_C_called 14 = .ok (.iload_n 1, 1) := by decide +kernel
theorem d_C_called_15 : decode c_C_called 15 = .ok (.invokevirtual 82, 3) := by decide +kernel
theorem d_C_called_18 : decode c_C_called 18 = .ok (.ifCond .eq 14, 3) := by decide +kernel
theorem d_C_called_21 : decode c_C_called 21 = .ok (.aload_n 0, 1) := by decide +kernel
theorem d_C_called_22 : decode c_C_called 22 = .ok (.getfield 21, 3) := by decide +kernel
theorem d_C_called_25 : decode c_C_called 25 = .ok (.iload_n 1, 1) := by decide +kernel
theorem d_C_called_26 : decode c_C_called 26 = .ok (.invokevirtual 86, 3) := by decide +kernel
theorem d_C_called_29 : decode c_C_called 29 = .ok (.goto 4, 3) := by decide +kernel
theorem d_C_called_32 : decode c_C_called 32 = .ok (.iconst (-1), 1) := by decide +kernel
theorem d_C_called_33 : decode c_C_called 33 = .ok (.ireturn, 1) := by decide +kernel
theorem d_C_analyse_0 : decode c_C_analyse 0 = .ok (.iload_n 1, 1) := by decide +kernel
theorem d_C_analyse_1 : decode c_C_analyse 1 = .ok (.ifCond .eq 8, 3) := by decide +kernel
theorem d_C_analyse_4 : decode c_C_analyse 4 = .ok (.iload_n 1, 1) := by decide +kernel
theorem d_C_analyse_5 : decode c_C_analyse 5 = .ok (.iconst 1, 1) := by decide +kernel
theorem d_C_analyse_6 : decode c_C_analyse 6 = .ok (.if_icmp .ne 14, 3) := by decide +kernel
theorem d_C_analyse_9 : decode c_C_analyse 9 = .ok (.aload_n 0, 1) := by decide +kernel
theorem d_C_analyse_10 : decode c_C_analyse 10 = .ok (.getfield 28, 3) := by decide +kernel
theorem d_C_analyse_13 : decode c_C_analyse 13 = .ok (.iload_n 1, 1) := by decide +kernel
theorem d_C_analyse_14 : decode c_C_analyse 14 = .ok (.invokevirtual 89, 3) := by decide +kernel
theorem d_C_analyse_17 : decode c_C_analyse 17 = .ok (.goto 4, 3) := by decide +kernel
theorem d_C_analyse_20 : decode c_C_analyse 20 = .ok (.iconst (-1), 1) := by decide +kernel
theorem d_C_analyse_21 : decode c_C_analyse 21 = .ok (.ireturn, 1) := by decide +kernel
theorem d_C_flow_0 : decode c_C_flow 0 = .ok (.aload_n 0, 1) := by decide +kernel
theorem d_C_flow_1 : decode c_C_flow 1 = .ok (.getfield 28, 3) := by decide +kernel
theorem d_C_flow_4 : decode c_C_flow 4 = .ok (.invokevirtual 92, 3) := by decide +kernel
theorem d_C_flow_7 : decode c_C_flow 7 = .ok (.ifCond .eq 25, 3) := by decide +kernel
theorem d_C_flow_10 : decode c_C_flow 10 = .ok (.aload_n 0, 1) := by decide +kernel
theorem d_C_flow_11 : decode c_C_flow 11 = .ok (.getfield 10, 3) := by decide +kernel
theorem d_C_flow_14 : decode c_C_flow 14 = .ok (.iload_n 1, 1) := by decide +kernel
theorem d_C_flow_15 : decode c_C_flow 15 = .ok (.invokevirtual 82, 3) := by decide +kernel
theorem d_C_flow_18 : decode c_C_flow 18 = .ok (.ifCond .eq 14, 3) := by decide +kernel
theorem d_C_flow_21 : decode c_C_flow 21 = .ok (.aload_n 0, 1) := by decide +kernel
theorem d_C_flow_22 : decode c_C_flow 22 = .ok (.getfield 28, 3) := by decide +kernel
theorem d_C_flow_25 : decode c_C_flow 25 = .ok (.iload_n 1, 1) := by decide +kernel
theorem d_C_flow_26 : decode c_C_flow 26 = .ok (.invokevirtual 95, 3) := by decide +kernel
theorem d_C_flow_29 : decode c_C_flow 29 = .ok (.goto 4, 3) := by decide +kernel
theorem d_C_flow_32 : decode c_C_flow 32 = .ok (.iconst (-1), 1) := by decide +kernel
theorem d_C_flow_33 : decode c_C_flow 33 = .ok (.ireturn, 1) := by decide +kernel
theorem d_C_contours_0 : decode c_C_contours 0 = .ok (.aload_n 0, 1) := by decide +kernel
theorem d_C_contours_1 : decode c_C_contours 1 = .ok (.getfield 28, 3) := by decide +kernel
theorem d_C_contours_4 : decode c_C_contours 4 = .ok (.invokevirtual 92, 3) := by decide +kernel
theorem d_C_contours_7 : decode c_C_contours 7 = .ok (.ifCond .eq 25, 3) := by decide +kernel
theorem d_C_contours_10 : decode c_C_contours 10 = .ok (.aload_n 0, 1) := by decide +kernel
theorem d_C_contours_11 : decode c_C_contours 11 = .ok (.getfield 10, 3) := by decide +kernel
theorem d_C_contours_14 : decode c_C_contours 14 = .ok (.iload_n 1, 1) := by decide +kernel
theorem d_C_contours_15 : decode c_C_contours 15 = .ok (.invokevirtual 82, 3) := by decide +kernel
theorem d_C_contours_18 : decode c_C_contours 18 = .ok (.ifCond .eq 14, 3) := by decide +kernel
theorem d_C_contours_21 : decode c_C_contours 21 = .ok (.aload_n 0, 1) := by decide +kernel
theorem d_C_contours_22 : decode c_C_contours 22 = .ok (.getfield 28, 3) := by decide +kernel
theorem d_C_contours_25 : decode c_C_contours 25 = .ok (.iload_n 1, 1) := by decide +kernel
theorem d_C_contours_26 : decode c_C_contours 26 = .ok (.invokevirtual 98, 3) := by decide +kernel
theorem d_C_contours_29 : decode c_C_contours 29 = .ok (.goto 4, 3) := by decide +kernel
theorem d_C_contours_32 : decode c_C_contours 32 = .ok (.iconst (-1), 1) := by decide +kernel
theorem d_C_contours_33 : decode c_C_contours 33 = .ok (.ireturn, 1) := by decide +kernel
theorem d_C_constants_0 : decode c_C_constants 0 = .ok (.aload_n 0, 1) := by decide +kernel
theorem d_C_constants_1 : decode c_C_constants 1 = .ok (.getfield 28, 3) := by decide +kernel
theorem d_C_constants_4 : decode c_C_constants 4 = .ok (.invokevirtual 92, 3) := by decide +kernel
theorem d_C_constants_7 : decode c_C_constants 7 = .ok (.ifCond .eq 27, 3) := by decide +kernel
theorem d_C_constants_10 : decode c_C_constants 10 = .ok (.aload_n 0, 1) := by decide +kernel
theorem d_C_constants_11 : decode c_C_constants 11 = .ok (.getfield 10, 3) := by decide +kernel
theorem d_C_constants_14 : decode c_C_constants 14 = .ok (.iload_n 1, 1) := by decide +kernel
theorem d_C_constants_15 : decode c_C_constants 15 = .ok (.iload_n 2, 1) := by decide +kernel
theorem d_C_constants_16 : decode c_C_constants 16 = .ok (.invokevirtual 101, 3) := by decide +kernel
theorem d_C_constants_19 : decode c_C_constants 19 = .ok (.ifCond .eq 15, 3) := by decide +kernel
theorem d_C_constants_22 : decode c_C_constants 22 = .ok (.aload_n 0, 1) := by decide +kernel
theorem d_C_constants_23 : decode c_C_constants 23 = .ok (.getfield 28, 3) := by decide +kernel
theorem d_C_constants_26 : decode c_C_constants 26 = .ok (.iload_n 1, 1) := by decide +kernel
theorem d_C_constants_27 : decode c_C_constants 27 = .ok (.iload_n 2, 1) := by decide +kernel
theorem d_C_constants_28 : decode c_C_constants 28 = .ok (.invokevirtual 104, 3) := by decide +kernel
theorem d_C_constants_31 : decode c_C_constants 31 = .ok (.goto 4, 3) := by decide +kernel
theorem d_C_constants_34 : decode c_C_constants 34 = .ok (.iconst (-1), 1) := by decide +kernel
theorem d_C_constants_35 : decode c_C_constants 35 = .ok (.ireturn, 1) := by decide +kernel
theorem d_C_closures_0 : decode c_C_closures 0 = .ok (.aload_n 0, 1) := by decide +kernel
theorem d_C_closures_1 : decode c_C_closures 1 = .ok (.getfield 28, 3) := by decide +kernel
theorem d_C_closures_4 : decode c_C_closures 4 = .ok (.invokevirtual 92, 3) := by decide +kernel
theorem d_C_closures_7 : decode c_C_closures 7 = .ok (.ifCond .eq 27, 3) := by decide +kernel
theorem d_C_closures_10 : decode c_C_closures 10 = .ok (.aload_n 0, 1) := by decide +kernel
theorem d_C_closures_11 : decode c_C_closures 11 = .ok (.getfield 10, 3) := by decide +kernel
theorem d_C_closures_14 : decode c_C_closures 14 = .ok (.iload_n 1, 1) := by decide +kernel
theorem d_C_closures_15 : decode c_C_closures 15 = .ok (.iload_n 2, 1) := by decide +kernel
theorem d_C_closures_16 : decode c_C_closures 16 = .ok (.invokevirtual 101, 3) := by decide +kernel
theorem d_C_closures_19 : decode c_C_closures 19 = .ok (.ifCond .eq 15, 3) := by decide +kernel
theorem d_C_closures_22 : decode c_C_closures 22 = .ok (.aload_n 0, 1) := by decide +kernel
theorem d_C_closures_23 : decode c_C_closures 23 = .ok (.getfield 28, 3) := by decide +kernel
theorem d_C_closures_26 : decode c_C_closures 26 = .ok (.iload_n 1, 1) := by decide +kernel
theorem d_C_closures_27 : decode c_C_closures 27 = .ok (.iload_n 2, 1) := by decide +kernel
theorem d_C_closures_28 : decode c_C_closures 28 = .ok (.invokevirtual 107, 3) := by decide +kernel
theorem d_C_closures_31 : decode c_C_closures 31 = .ok (.goto 4, 3) := by decide +kernel
theorem d_C_closures_34 : decode c_C_closures 34 = .ok (.iconst (-1), 1) := by decide +kernel
theorem d_C_closures_35 : decode c_C_closures 35 = .ok (.ireturn, 1) := by decide +kernel
theorem d_C_results_0 : decode c_C_results 0 = .ok (.aload_n 0, 1) := by decide +kernel
theorem d_C_results_1 : decode c_C_results 1 = .ok (.getfield 28, 3) := by decide +kernel
theorem d_C_results_4 : decode c_C_results 4 = .ok (.invokevirtual 92, 3) := by decide +kernel
theorem d_C_results_7 : decode c_C_results 7 = .ok (.ifCond .eq 13, 3) := by decide +kernel
theorem d_C_results_10 : decode c_C_results 10 = .ok (.aload_n 0, 1) := by decide +kernel
theorem d_C_results_11 : decode c_C_results 11 = .ok (.getfield 28, 3) := by decide +kernel
theorem d_C_results_14 : decode c_C_results 14 = .ok (.invokevirtual 110, 3) := by decide +kernel
theorem d_C_results_17 : decode c_C_results 17 = .ok (.goto 4, 3) := by decide +kernel
theorem d_C_results_20 : decode c_C_results 20 = .ok (.iconst (-1), 1) := by decide +kernel
theorem d_C_results_21 : decode c_C_results 21 = .ok (.ireturn, 1) := by decide +kernel
