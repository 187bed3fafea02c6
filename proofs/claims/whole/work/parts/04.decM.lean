theorem d_M_init_0 : decode c_M_init 0 = .ok (.aload_n 0, 1) := by decide +kernel
theorem d_M_init_1 : decode c_M_init 1 = .ok (.invokespecial 3, 3) := by decide +kernel
theorem d_M_init_4 : decode c_M_init 4 = .ok (.aload_n 0, 1) := by decide +kernel
theorem d_M_init_5 : decode c_M_init 5 = .ok (.bipush 65, 2) := by decide +kernel
theorem d_M_init_7 : decode c_M_init 7 = .ok (.newarray .int, 2) := by decide +kernel
theorem d_M_init_9 : decode c_M_init 9 = .ok (.putfield 11, 3) := by decide +kernel
theorem d_M_init_12 : decode c_M_init 12 = .ok (.aload_n 0, 1) := by decide +kernel
theorem d_M_init_13 : decode c_M_init 13 = .ok (.bipush 65, 2) := by decide +kernel
theorem d_M_init_15 : decode c_M_init 15 = .ok (.newarray .int, 2) := by decide +kernel
theorem d_M_init_17 : decode c_M_init 17 = .ok (.putfield 15, 3) := by decide +kernel
theorem d_M_init_20 : decode c_M_init 20 = .ok (.aload_n 0, 1) := by decide +kernel
theorem d_M_init_21 : decode c_M_init 21 = .ok (.sipush 195, 3) := by decide +kernel
theorem d_M_init_24 : decode c_M_init 24 = .ok (.newarray .int, 2) := by decide +kernel
theorem d_M_init_26 : decode c_M_init 26 = .ok (.putfield 18, 3) := by decide +kernel
theorem d_M_init_29 : decode c_M_init 29 = .ok (.aload_n 0, 1) := by decide +kernel
theorem d_M_init_30 : decode c_M_init 30 = .ok (.bipush 8, 2) := by decide +kernel
theorem d_M_init_32 : decode c_M_init 32 = .ok (.newarray .int, 2) := by decide +kernel
theorem d_M_init_34 : decode c_M_init 34 = .ok (.putfield 21, 3) := by decide +kernel
theorem d_M_init_37 : decode c_M_init 37 = .ok (.aload_n 0, 1) := by decide +kernel
theorem d_M_init_38 : decode c_M_init 38 = .ok (.iconst 4, 1) := by decide +kernel
theorem d_M_init_39 : decode c_M_init 39 = .ok (.newarray .int, 2) := by decide +kernel
theorem d_M_init_41 : decode c_M_init 41 = .ok (.putfield 24, 3) := by decide +kernel
theorem d_M_init_44 : decode c_M_init 44 = .ok (.aload_n 0, 1) := by decide +kernel
theorem d_M_init_45 : decode c_M_init 45 = .ok (.aload_n 1, 1) := by decide +kernel
theorem d_M_init_46 : decode c_M_init 46 = .ok (.putfield 27, 3) := by decide +kernel
theorem d_M_init_49 : decode c_M_init 49 = .ok (.return_, 1) := by decide +kernel
theorem d_M_forget_0 : decode c_M_forget 0 = .ok (.aload_n 0, 1) := by decide +kernel
theorem d_M_forget_1 : decode c_M_forget 1 = .ok (.iconst 0, 1) := by decide +kernel
theorem d_M_forget_2 : decode c_M_forget 2 = .ok (.putfield 31, 3) := by decide +kernel
theorem d_M_forget_5 : decode c_M_forget 5 = .ok (.return_, 1) := by decide +kernel
theorem d_M_begin_0 : decode c_M_begin 0 = .ok (.aload_n 0, 1) := by decide +kernel
theorem d_M_begin_1 : decode c_M_begin 1 = .ok (.iconst 1, 1) := by decide +kernel
theorem d_M_begin_2 : decode c_M_begin 2 = .ok (.putfield 31, 3) := by decide +kernel
theorem d_M_begin_5 : decode c_M_begin 5 = .ok (.aload_n 0, 1) := by decide +kernel
theorem d_M_begin_6 : decode c_M_begin 6 = .ok (.iconst 0, 1) := by decide +kernel
theorem d_M_begin_7 : decode c_M_begin 7 = .ok (.putfield 35, 3) := by decide +kernel
theorem d_M_begin_10 : decode c_M_begin 10 = .ok (.aload_n 0, 1) := by decide +kernel
theorem d_M_begin_11 : decode c_M_begin 11 = .ok (.getfield 21, 3) := by decide +kernel
theorem d_M_begin_14 : decode c_M_begin 14 = .ok (.iconst 0, 1) := by decide +kernel
theorem d_M_begin_15 : decode c_M_begin 15 = .ok (.invokestatic 38, 3) := by decide +kernel
theorem d_M_begin_18 : decode c_M_begin 18 = .ok (.return_, 1) := by decide +kernel
theorem d_M_isStarted_0 : decode c_M_isStarted 0 = .ok (.aload_n 0, 1) := by decide +kernel
theorem d_M_isStarted_1 : decode c_M_isStarted 1 = .ok (.getfield 31, 3) := by decide +kernel
theorem d_M_isStarted_4 : decode c_M_isStarted 4 = .ok (.ifCond .eq 7, 3) := by decide +kernel
theorem d_M_isStarted_7 : decode c_M_isStarted 7 = .ok (.iconst 1, 1) := by decide +kernel
theorem d_M_isStarted_8 : decode c_M_isStarted 8 = .ok (.goto 4, 3) := by decide +kernel
theorem d_M_isStarted_11 : decode c_M_isStarted 11 = .ok (.iconst 0, 1) := by decide +kernel
theorem d_M_isStarted_12 : decode c_M_isStarted 12 = .ok (.ireturn, 1) := by decide +kernel
theorem d_M_advance_0 : decode c_M_advance 0 = .ok (.iconst 0, 1) := by decide +kernel
theorem d_M_advance_1 : decode c_M_advance 1 = .ok (.istore_n 2, 1) := by decide +kernel
theorem d_M_advance_2 : decode c_M_advance 2 = .ok (.iload_n 2, 1) := by decide +kernel
theorem d_M_advance_3 : decode c_M_advance 3 = .ok (.iload_n 1, 1) := by decide +kernel
theorem d_M_advance_4 : decode c_M_advance 4 = .ok (.if_icmp .ge 33, 3) := by decide +kernel
theorem d_M_advance_7 : decode c_M_advance 7 = .ok (.aload_n 0, 1) := by decide +kernel
theorem d_M_advance_8 : decode c_M_advance 8 = .ok (.getfield 31, 3) := by decide +kernel
theorem d_M_advance_11 : decode c_M_advance 11 = .ok (.iconst 1, 1) := by decide +kernel
theorem d_M_advance_12 : decode c_M_advance 12 = .ok (.if_icmp .eq 5, 3) := by decide +kernel
theorem d_M_advance_15 : decode c_M_advance 15 = .ok (.iload_n 2, 1) := by decide +kernel
theorem d_M_advance_16 : decode c_M_advance 16 = .ok (.ireturn, 1) := by decide +kernel
theorem d_M_advance_17 : decode c_M_advance 17 = .ok (.aload_n 0, 1) := by decide +kernel
theorem d_M_advance_18 : decode c_M_advance 18 = .ok (.invokevirtual 53, 3) := by decide +kernel
theorem d_M_advance_21 : decode c_M_advance 21 = .ok (.aload_n 0, 1) := by decide +kernel
theorem d_M_advance_22 : decode c_M_advance 22 = .ok (.getfield 31, 3) := by decide +kernel
theorem d_M_advance_25 : decode c_M_advance 25 = .ok (.iconst 4, 1) := by decide +kernel
theorem d_M_advance_26 : decode c_M_advance 26 = .ok (.if_icmp .ne 5, 3) := by decide +kernel
theorem d_M_advance_29 : decode c_M_advance 29 = .ok (.iload_n 2, 1) := by decide +kernel
theorem d_M_advance_30 : decode c_M_advance 30 = .ok (.ireturn, 1) := by decide +kernel
theorem d_M_advance_31 : decode c_M_advance 31 = .ok (.iinc 2 1, 3) := by decide +kernel
theorem d_M_advance_34 : decode c_M_advance 34 = .ok (.goto (-32), 3) := by decide +kernel
theorem d_M_advance_37 : decode c_M_advance 37 = .ok (.iload_n 1, 1) := by decide +kernel
theorem d_M_advance_38 : decode c_M_advance 38 = .ok (.ireturn, 1) := by decide +kernel
theorem d_M_tryStep_0 : decode c_M_tryStep 0 = .ok (.aload_n 0, 1) := by decide +kernel
theorem d_M_tryStep_1 : decode c_M_tryStep 1 = .ok (.getfield 27, 3) := by decide +kernel
theorem d_M_tryStep_4 : decode c_M_tryStep 4 = .ok (.aload_n 0, 1) := by decide +kernel
theorem d_M_tryStep_5 : decode c_M_tryStep 5 = .ok (.invokevirtual 56, 3) := by decide +kernel
theorem d_M_tryStep_8 : decode c_M_tryStep 8 = .ok (.invokevirtual 60, 3) := by decide +kernel
theorem d_M_tryStep_11 : decode c_M_tryStep 11 = .ok (.istore_n 1, 1) := by decide +kernel
theorem d_M_tryStep_12 : decode c_M_tryStep 12 = .ok (.iload_n 1, 1) := by decide +kernel
theorem d_M_tryStep_13 : decode c_M_tryStep 13 = .ok (.ifCond .ne 9, 3) := by decide +kernel
theorem d_M_tryStep_16 : decode c_M_tryStep 16 = .ok (.aload_n 0, 1) := by decide +kernel
theorem d_M_tryStep_17 : decode c_M_tryStep 17 = .ok (.iconst 3, 1) := by decide +kernel
theorem d_M_tryStep_18 : decode c_M_tryStep 18 = .ok (.putfield 31, 3) := by decide +kernel
theorem d_M_tryStep_21 : decode c_M_tryStep 21 = .ok (.return_, 1) := by decide +kernel
theorem d_M_tryStep_22 : decode c_M_tryStep 22 = .ok (.iconst 0, 1) := by decide +kernel
theorem d_M_tryStep_23 : decode c_M_tryStep 23 = .ok (.istore_n 2, 1) := by decide +kernel
theorem d_M_tryStep_24 : decode c_M_tryStep 24 = .ok (.iload_n 2, 1) := by decide +kernel
theorem d_M_tryStep_25 : decode c_M_tryStep 25 = .ok (.iload_n 1, 1) := by decide +kernel
theorem d_M_tryStep_26 : decode c_M_tryStep 26 = .ok (.if_icmp .ge 31, 3) := by decide +kernel
theorem d_M_tryStep_29 : decode c_M_tryStep 29 = .ok (.aload_n 0, 1) := by decide +kernel
theorem d_M_tryStep_30 : decode c_M_tryStep 30 = .ok (.getfield 24, 3) := by decide +kernel
theorem d_M_tryStep_33 : decode c_M_tryStep 33 = .ok (.iload_n 2, 1) := by decide +kernel
theorem d_M_tryStep_34 : decode c_M_tryStep 34 = .ok (.aload_n 0, 1) := by decide +kernel
theorem d_M_tryStep_35 : decode c_M_tryStep 35 = .ok (.aload_n 0, 1) := by decide +kernel
theorem d_M_tryStep_36 : decode c_M_tryStep 36 = .ok (.getfield 27, 3) := by decide +kernel
theorem d_M_tryStep_39 : decode c_M_tryStep 39 = .ok (.aload_n 0, 1) := by decide +kernel
theorem d_M_tryStep_40 : decode c_M_tryStep 40 = .ok (.invokevirtual 56, 3) := by decide +kernel
theorem d_M_tryStep_43 : decode c_M_tryStep 43 = .ok (.iload_n 2, 1) := by decide +kernel
theorem d_M_tryStep_44 : decode c_M_tryStep 44 = .ok (.invokevirtual 64, 3) := by decide +kernel
theorem d_M_tryStep_47 : decode c_M_tryStep 47 = .ok (.invokevirtual 68, 3) := by decide +kernel
theorem d_M_tryStep_50 : decode c_M_tryStep 50 = .ok (.iastore, 1) := by decide +kernel
theorem d_M_tryStep_51 : decode c_M_tryStep 51 = .ok (.iinc 2 1, 3) := by decide +kernel
theorem d_M_tryStep_54 : decode c_M_tryStep 54 = .ok (.goto (-30), 3) := by decide +kernel
theorem d_M_tryStep_57 : decode c_M_tryStep 57 = .ok (.aload_n 0, 1) := by decide +kernel
theorem d_M_tryStep_58 : decode c_M_tryStep 58 = .ok (.iload_n 1, 1) := by decide +kernel
theorem d_M_tryStep_59 : decode c_M_tryStep 59 = .ok (.iconst 1, 1) := by decide +kernel
theorem d_M_tryStep_60 : decode c_M_tryStep 60 = .ok (.isub, 1) := by decide +kernel
theorem d_M_tryStep_61 : decode c_M_tryStep 61 = .ok (.invokevirtual 71, 3) := by decide +kernel
theorem d_M_tryStep_64 : decode c_M_tryStep 64 = .ok (.return_, 1) := by decide +kernel
theorem d_M_place_0 : decode c_M_place 0 = .ok (.aload_n 0, 1) := by decide +kernel
theorem d_M_place_1 : decode c_M_place 1 = .ok (.getfield 11, 3) := by decide +kernel
theorem d_M_place_4 : decode c_M_place 4 = .ok (.aload_n 0, 1) := by decide +kernel
theorem d_M_place_5 : decode c_M_place 5 = .ok (.getfield 35, 3) := by decide +kernel
theorem d_M_place_8 : decode c_M_place 8 = .ok (.iaload, 1) := by decide +kernel
theorem d_M_place_9 : decode c_M_place 9 = .ok (.ireturn, 1) := by decide +kernel
theorem d_M_meaning_0 : decode c_M_meaning 0 = .ok (.iload_n 1, 1) := by decide +kernel
theorem d_M_meaning_1 : decode c_M_meaning 1 = .ok (.invokestatic 75, 3) := by decide +kernel
theorem d_M_meaning_4 : decode c_M_meaning 4 = .ok (.ifCond .eq 16, 3) := by decide +kernel
theorem d_M_meaning_7 : decode c_M_meaning 7 = .ok (.aload_n 0, 1) := by decide +kernel
theorem d_M_meaning_8 : decode c_M_meaning 8 = .ok (.iload_n 1, 1) := by decide +kernel
theorem d_M_meaning_9 : decode c_M_meaning 9 = .ok (.invokestatic 79, 3) := by decide +kernel
theorem d_M_meaning_12 : decode c_M_meaning 12 = .ok (.iload_n 1, 1) := by decide +kernel
theorem d_M_meaning_13 : decode c_M_meaning 13 = .ok (.invokestatic 82, 3) := by decide +kernel
theorem d_M_meaning_16 : decode c_M_meaning 16 = .ok (.invokevirtual 85, 3) := by decide +kernel
theorem d_M_meaning_19 : decode c_M_meaning 19 = .ok (.ireturn, 1) := by decide +kernel
theorem d_M_meaning_20 : decode c_M_meaning 20 = .ok (.iload_n 1, 1) := by decide +kernel
theorem d_M_meaning_21 : decode c_M_meaning 21 = .ok (.invokestatic 88, 3) := by decide +kernel
theorem d_M_meaning_24 : decode c_M_meaning 24 = .ok (.ifCond .eq 16, 3) := by decide +kernel
theorem d_M_meaning_27 : decode c_M_meaning 27 = .ok (.aload_n 0, 1) := by decide +kernel
theorem d_M_meaning_28 : decode c_M_meaning 28 = .ok (.getfield 35, 3) := by decide +kernel
theorem d_M_meaning_31 : decode c_M_meaning 31 = .ok (.sipush 1000, 3) := by decide +kernel
theorem d_M_meaning_34 : decode c_M_meaning 34 = .ok (.imul, 1) := by decide +kernel
theorem d_M_meaning_35 : decode c_M_meaning 35 = .ok (.iload_n 1, 1) := by decide +kernel
theorem d_M_meaning_36 : decode c_M_meaning 36 = .ok (.iadd, 1) := by decide +kernel
theorem d_M_meaning_37 : decode c_M_meaning 37 = .ok (.goto 4, 3) := by decide +kernel
theorem d_M_meaning_40 : decode c_M_meaning 40 = .ok (.iload_n 1, 1) := by decide +kernel
theorem d_M_meaning_41 : decode c_M_meaning 41 = .ok (.ireturn, 1) := by decide +kernel
theorem d_M_bound_0 : decode c_M_bound 0 = .ok (.aload_n 0, 1) := by decide +kernel
theorem d_M_bound_1 : decode c_M_bound 1 = .ok (.getfield 27, 3) := by decide +kernel
theorem d_M_bound_4 : decode c_M_bound 4 = .ok (.iload_n 1, 1) := by decide +kernel
theorem d_M_bound_5 : decode c_M_bound 5 = .ok (.iload_n 2, 1) := by decide +kernel
theorem d_M_bound_6 : decode c_M_bound 6 = .ok (.invokevirtual 47, 3) := by decide +kernel
theorem d_M_bound_9 : decode c_M_bound 9 = .ok (.ifCond .ne 5, 3) := by decide +kernel
theorem d_M_bound_12 : decode c_M_bound 12 = .ok (.iconst (-1), 1) := by decide +kernel
theorem d_M_bound_13 : decode c_M_bound 13 = .ok (.ireturn, 1) := by decide +kernel
theorem d_M_bound_14 : decode c_M_bound 14 = .ok (.aload_n 0, 1) := by decide +kernel
theorem d_M_bound_15 : decode c_M_bound 15 = .ok (.getfield 35, 3) := by decide +kernel
theorem d_M_bound_18 : decode c_M_bound 18 = .ok (.istore_n 3, 1) := by decide +kernel
theorem d_M_bound_19 : decode c_M_bound 19 = .ok (.iconst 0, 1) := by decide +kernel
theorem d_M_bound_20 : decode c_M_bound 20 = .ok (.istore 4, 2) := by decide +kernel
theorem d_M_bound_22 : decode c_M_bound 22 = .ok (.iload 4, 2) := by decide +kernel
theorem d_M_bound_24 : decode c_M_bound 24 = .ok (.bipush 8, 2) := by decide +kernel
theorem d_M_bound_26 : decode c_M_bound 26 = .ok (.if_icmp .ge 37, 3) := by decide +kernel
theorem d_M_bound_29 : decode c_M_bound 29 = .ok (.aload_n 0, 1) := by decide +kernel
theorem d_M_bound_30 : decode c_M_bound 30 = .ok (.getfield 11, 3) := by decide +kernel
theorem d_M_bound_33 : decode c_M_bound 33 = .ok (.iload_n 3, 1) := by decide +kernel
theorem d_M_bound_34 : decode c_M_bound 34 = .ok (.iaload, 1) := by decide +kernel
theorem d_M_bound_35 : decode c_M_bound 35 = .ok (.iload_n 1, 1) := by decide +kernel
theorem d_M_bound_36 : decode c_M_bound 36 = .ok (.if_icmp .ne 14, 3) := by decide +kernel
theorem d_M_bound_39 : decode c_M_bound 39 = .ok (.aload_n 0, 1) := by decide +kernel
theorem d_M_bound_40 : decode c_M_bound 40 = .ok (.getfield 18, 3) := by decide +kernel
theorem d_M_bound_43 : decode c_M_bound 43 = .ok (.iload_n 3, 1) := by decide +kernel
theorem d_M_bound_44 : decode c_M_bound 44 = .ok (.iconst 3, 1) := by decide +kernel
theorem d_M_bound_45 : decode c_M_bound 45 = .ok (.imul, 1) := by decide +kernel
theorem d_M_bound_46 : decode c_M_bound 46 = .ok (.iload_n 2, 1) := by decide +kernel
theorem d_M_bound_47 : decode c_M_bound 47 = .ok (.iadd, 1) := by decide +kernel
theorem d_M_bound_48 : decode c_M_bound 48 = .ok (.iaload, 1) := by decide +kernel
theorem d_M_bound_49 : decode c_M_bound 49 = .ok (.ireturn, 1) := by decide +kernel
theorem d_M_bound_50 : decode c_M_bound 50 = .ok (.aload_n 0, 1) := by decide +kernel
theorem d_M_bound_51 : decode c_M_bound 51 = .ok (.getfield 15, 3) := by decide +kernel
theorem d_M_bound_54 : decode c_M_bound 54 = .ok (.iload_n 3, 1) := by decide +kernel
theorem d_M_bound_55 : decode c_M_bound 55 = .ok (.iaload, 1) := by decide +kernel
theorem d_M_bound_56 : decode c_M_bound 56 = .ok (.istore_n 3, 1) := by decide +kernel
theorem d_M_bound_57 : decode c_M_bound 57 = .ok (.iinc 4 1, 3) := by decide +kernel
theorem d_M_bound_60 : decode c_M_bound 60 = .ok (.goto (-38), 3) := by decide +kernel
theorem d_M_bound_63 : decode c_M_bound 63 = .ok (.iconst (-1), 1) := by decide +kernel
theorem d_M_bound_64 : decode c_M_bound 64 = .ok (.ireturn, 1) := by decide +kernel
theorem d_M_applyOperator_0 : decode c_M_applyOperator 0 = .ok (.iload_n 1, 1) := by decide +kernel
theorem d_M_applyOperator_1 : decode c_M_applyOperator 1 = .ok (.iconst 3, 1) := by decide +kernel
theorem d_M_applyOperator_2 : decode c_M_applyOperator 2 = .ok (.if_icmp .ne 19, 3) := by decide +kernel
theorem d_M_applyOperator_5 : decode c_M_applyOperator 5 = .ok (.aload_n 0, 1) := by decide +kernel
theorem d_M_applyOperator_6 : decode c_M_applyOperator 6 = .ok (.getfield 24, 3) := by decide +kernel
theorem d_M_applyOperator_9 : decode c_M_applyOperator 9 = .ok (.iconst 1, 1) := by decide +kernel
theorem d_M_applyOperator_10 : decode c_M_applyOperator 10 = .ok (.iaload, 1) := by decide +kernel
theorem d_M_applyOperator_11 : decode c_M_applyOperator 11 = .ok (.invokestatic 91, 3) := by decide +kernel
theorem d_M_applyOperator_14 : decode c_M_applyOperator 14 = .ok (.ifCond .eq 7, 3) := by decide +kernel
theorem d_M_applyOperator_17 : decode c_M_applyOperator 17 = .ok (.iconst 1, 1) := by decide +kernel
theorem d_M_applyOperator_18 : decode c_M_applyOperator 18 = .ok (.goto 4, 3) := by decide +kernel
theorem d_M_applyOperator_21 : decode c_M_applyOperator 21 = .ok (.iconst 0, 1) := by decide +kernel
theorem d_M_applyOperator_22 : decode c_M_applyOperator 22 = .ok (.istore_n 2, 1) := by decide +kernel
theorem d_M_applyOperator_23 : decode c_M_applyOperator 23 = .ok (.iload_n 2, 1) := by decide +kernel
theorem d_M_applyOperator_24 : decode c_M_applyOperator 24 = .ok (.ifCond .eq 47, 3) := by decide +kernel
theorem d_M_applyOperator_27 : decode c_M_applyOperator 27 = .ok (.aload_n 0, 1) := by decide +kernel
theorem d_M_applyOperator_28 : decode c_M_applyOperator 28 = .ok (.getfield 24, 3) := by decide +kernel
theorem d_M_applyOperator_31 : decode c_M_applyOperator 31 = .ok (.iconst 0, 1) := by decide +kernel
theorem d_M_applyOperator_32 : decode c_M_applyOperator 32 = .ok (.iaload, 1) := by decide +kernel
theorem d_M_applyOperator_33 : decode c_M_applyOperator 33 = .ok (.sipush 302, 3) := by decide +kernel
theorem d_M_applyOperator_36 : decode c_M_applyOperator 36 = .ok (.if_icmp .ne 35, 3) := by decide +kernel
theorem d_M_applyOperator_39 : decode c_M_applyOperator 39 = .ok (.aload_n 0, 1) := by decide +kernel
theorem d_M_applyOperator_40 : decode c_M_applyOperator 40 = .ok (.aload_n 0, 1) := by decide +kernel
theorem d_M_applyOperator_41 : decode c_M_applyOperator 41 = .ok (.getfield 24, 3) := by decide +kernel
theorem d_M_applyOperator_44 : decode c_M_applyOperator 44 = .ok (.iconst 1, 1) := by decide +kernel
theorem d_M_applyOperator_45 : decode c_M_applyOperator 45 = .ok (.iaload, 1) := by decide +kernel
theorem d_M_applyOperator_46 : decode c_M_applyOperator 46 = .ok (.ifCond .ne 12, 3) := by decide +kernel
theorem d_M_applyOperator_49 : decode c_M_applyOperator 49 = .ok (.aload_n 0, 1) := by decide +kernel
theorem d_M_applyOperator_50 : decode c_M_applyOperator 50 = .ok (.getfield 24, 3) := by decide +kernel
theorem d_M_applyOperator_53 : decode c_M_applyOperator 53 = .ok (.iconst 2, 1) := by decide +kernel
theorem d_M_applyOperator_54 : decode c_M_applyOperator 54 = .ok (.iaload, 1) := by decide +kernel
theorem d_M_applyOperator_55 : decode c_M_applyOperator 55 = .ok (.goto 9, 3) := by decide +kernel
theorem d_M_applyOperator_58 : decode c_M_applyOperator 58 = .ok (.aload_n 0, 1) := by decide +kernel
theorem d_M_applyOperator_59 : decode c_M_applyOperator 59 = .ok (.getfield 24, 3) := by decide +kernel
theorem d_M_applyOperator_62 : decode c_M_applyOperator 62 = .ok (.iconst 3, 1) := by decide +kernel
theorem d_M_applyOperator_63 : decode c_M_applyOperator 63 = .ok (.iaload, 1) := by decide +kernel
theorem d_M_applyOperator_64 : decode c_M_applyOperator 64 = .ok (.iconst 0, 1) := by decide +kernel
theorem d_M_applyOperator_65 : decode c_M_applyOperator 65 = .ok (.invokevirtual 94, 3) := by decide +kernel
theorem d_M_applyOperator_68 : decode c_M_applyOperator 68 = .ok (.goto 78, 3) := by decide +kernel
theorem d_M_applyOperator_71 : decode c_M_applyOperator 71 = .ok (.iload_n 2, 1) := by decide +kernel
theorem d_M_applyOperator_72 : decode c_M_applyOperator 72 = .ok (.ifCond .eq 63, 3) := by decide +kernel
theorem d_M_applyOperator_75 : decode c_M_applyOperator 75 = .ok (.aload_n 0, 1) := by decide +kernel
theorem d_M_applyOperator_76 : decode c_M_applyOperator 76 = .ok (.getfield 24, 3) := by decide +kernel
theorem d_M_applyOperator_79 : decode c_M_applyOperator 79 = .ok (.iconst 0, 1) := by decide +kernel
theorem d_M_applyOperator_80 : decode c_M_applyOperator 80 = .ok (.iaload, 1) := by decide +kernel
theorem d_M_applyOperator_81 : decode c_M_applyOperator 81 = .ok (.sipush 301, 3) := by decide +kernel
theorem d_M_applyOperator_84 : decode c_M_applyOperator 84 = .ok (.if_icmp .ne 51, 3) := by decide +kernel
theorem d_M_applyOperator_87 : decode c_M_applyOperator 87 = .ok (.aload_n 0, 1) := by decide +kernel
theorem d_M_applyOperator_88 : decode c_M_applyOperator 88 = .ok (.getfield 24, 3) := by decide +kernel
theorem d_M_applyOperator_91 : decode c_M_applyOperator 91 = .ok (.iconst 2, 1) := by decide +kernel
theorem d_M_applyOperator_92 : decode c_M_applyOperator 92 = .ok (.iaload, 1) := by decide +kernel
theorem d_M_applyOperator_93 : decode c_M_applyOperator 93 = .ok (.invokestatic 91, 3) := by decide +kernel
theorem d_M_applyOperator_96 : decode c_M_applyOperator 96 = .ok (.ifCond .eq 39, 3) := by decide +kernel
theorem d_M_applyOperator_99 : decode c_M_applyOperator 99 = .ok (.aload_n 0, 1) := by decide +kernel
theorem d_M_applyOperator_100 : decode c_M_applyOperator 100 = .ok (.getfield 24, 3) := by decide +kernel
theorem d_M_applyOperator_103 : decode c_M_applyOperator 103 = .ok (.iconst 1, 1) := by decide +kernel
theorem d_M_applyOperator_104 : decode c_M_applyOperator 104 = .ok (.aload_n 0, 1) := by decide +kernel
theorem d_M_applyOperator_105 : decode c_M_applyOperator 105 = .ok (.getfield 24, 3) := by decide +kernel
theorem d_M_applyOperator_108 : decode c_M_applyOperator 108 = .ok (.iconst 1, 1) := by decide +kernel
theorem d_M_applyOperator_109 : decode c_M_applyOperator 109 = .ok (.iaload, 1) := by decide +kernel
theorem d_M_applyOperator_110 : decode c_M_applyOperator 110 = .ok (.aload_n 0, 1) := by decide +kernel
theorem d_M_applyOperator_111 : decode c_M_applyOperator 111 = .ok (.getfield 24, 3) := by decide +kernel
theorem d_M_applyOperator_114 : decode c_M_applyOperator 114 = .ok (.iconst 2, 1) := by decide +kernel
theorem d_M_applyOperator_115 : decode c_M_applyOperator 115 = .ok (.iaload, 1) := by decide +kernel
theorem d_M_applyOperator_116 : decode c_M_applyOperator 116 = .ok (.iadd, 1) := by decide +kernel
theorem d_M_applyOperator_117 : decode c_M_applyOperator 117 = .ok (.bipush 10, 2) := by decide +kernel
theorem d_M_applyOperator_119 : decode c_M_applyOperator 119 = .ok (.irem, 1) := by decide +kernel
theorem d_M_applyOperator_120 : decode c_M_applyOperator 120 = .ok (.iastore, 1) := by decide +kernel
theorem d_M_applyOperator_121 : decode c_M_applyOperator 121 = .ok (.aload_n 0, 1) := by decide +kernel
theorem d_M_applyOperator_122 : decode c_M_applyOperator 122 = .ok (.aload_n 0, 1) := by decide +kernel
theorem d_M_applyOperator_123 : decode c_M_applyOperator 123 = .ok (.getfield 24, 3) := by decide +kernel
theorem d_M_applyOperator_126 : decode c_M_applyOperator 126 = .ok (.iconst 3, 1) := by decide +kernel
theorem d_M_applyOperator_127 : decode c_M_applyOperator 127 = .ok (.iaload, 1) := by decide +kernel
theorem d_M_applyOperator_128 : decode c_M_applyOperator 128 = .ok (.iconst 1, 1) := by decide +kernel
theorem d_M_applyOperator_129 : decode c_M_applyOperator 129 = .ok (.invokevirtual 94, 3) := by decide +kernel
theorem d_M_applyOperator_132 : decode c_M_applyOperator 132 = .ok (.goto 14, 3) := by decide +kernel
theorem d_M_applyOperator_135 : decode c_M_applyOperator 135 = .ok (.aload_n 0, 1) := by decide +kernel
theorem d_M_applyOperator_136 : decode c_M_applyOperator 136 = .ok (.aload_n 0, 1) := by decide +kernel
theorem d_M_applyOperator_137 : decode c_M_applyOperator 137 = .ok (.getfield 24, 3) := by decide +kernel
theorem d_M_applyOperator_140 : decode c_M_applyOperator 140 = .ok (.iconst 0, 1) := by decide +kernel
theorem d_M_applyOperator_141 : decode c_M_applyOperator 141 = .ok (.iaload, 1) := by decide +kernel
theorem d_M_applyOperator_142 : decode c_M_applyOperator 142 = .ok (.iload_n 1, 1) := by decide +kernel
theorem d_M_applyOperator_143 : decode c_M_applyOperator 143 = .ok (.invokevirtual 94, 3) := by decide +kernel
theorem d_M_applyOperator_146 : decode c_M_applyOperator 146 = .ok (.return_, 1) := by decide +kernel
theorem d_M_applyDirectly_0 : decode c_M_applyDirectly 0 = .ok (.iload_n 1, 1) := by decide +kernel
theorem d_M_applyDirectly_1 : decode c_M_applyDirectly 1 = .ok (.invokestatic 98, 3) := by decide +kernel
theorem d_M_applyDirectly_4 : decode c_M_applyDirectly 4 = .ok (.istore_n 3, 1) := by decide +kernel
theorem d_M_applyDirectly_5 : decode c_M_applyDirectly 5 = .ok (.iload_n 3, 1) := by decide +kernel
theorem d_M_applyDirectly_6 : decode c_M_applyDirectly 6 = .ok (.invokestatic 88, 3) := by decide +kernel
theorem d_M_applyDirectly_9 : decode c_M_applyDirectly 9 = .ok (.ifCond .eq 37, 3) := by decide +kernel
theorem d_M_applyDirectly_12 : decode c_M_applyDirectly 12 = .ok (.aload_n 0, 1) := by decide +kernel
theorem d_M_applyDirectly_13 : decode c_M_applyDirectly 13 = .ok (.getfield 27, 3) := by decide +kernel
theorem d_M_applyDirectly_16 : decode c_M_applyDirectly 16 = .ok (.iload_n 3, 1) := by decide +kernel
theorem d_M_applyDirectly_17 : decode c_M_applyDirectly 17 = .ok (.sipush 200, 3) := by decide +kernel
theorem d_M_applyDirectly_20 : decode c_M_applyDirectly 20 = .ok (.isub, 1) := by decide +kernel
theorem d_M_applyDirectly_21 : decode c_M_applyDirectly 21 = .ok (.invokevirtual 101, 3) := by decide +kernel
theorem d_M_applyDirectly_24 : decode c_M_applyDirectly 24 = .ok (.iload_n 2, 1) := by decide +kernel
theorem d_M_applyDirectly_25 : decode c_M_applyDirectly 25 = .ok (.if_icmp .ne 21, 3) := by decide +kernel
theorem d_M_applyDirectly_28 : decode c_M_applyDirectly 28 = .ok (.aload_n 0, 1) := by decide +kernel
theorem d_M_applyDirectly_29 : decode c_M_applyDirectly 29 = .ok (.iload_n 3, 1) := by decide +kernel
theorem d_M_applyDirectly_30 : decode c_M_applyDirectly 30 = .ok (.sipush 200, 3) := by decide +kernel
theorem d_M_applyDirectly_33 : decode c_M_applyDirectly 33 = .ok (.isub, 1) := by decide +kernel
theorem d_M_applyDirectly_34 : decode c_M_applyDirectly 34 = .ok (.iload_n 1, 1) := by decide +kernel
theorem d_M_applyDirectly_35 : decode c_M_applyDirectly 35 = .ok (.sipush 1000, 3) := by decide +kernel
theorem d_M_applyDirectly_38 : decode c_M_applyDirectly 38 = .ok (.idiv, 1) := by decide +kernel
theorem d_M_applyDirectly_39 : decode c_M_applyDirectly 39 = .ok (.iload_n 2, 1) := by decide +kernel
theorem d_M_applyDirectly_40 : decode c_M_applyDirectly 40 = .ok (.invokevirtual 104, 3) := by decide +kernel
theorem d_M_applyDirectly_43 : decode c_M_applyDirectly 43 = .ok (.goto 38, 3) := by decide +kernel
theorem d_M_applyDirectly_46 : decode c_M_applyDirectly 46 = .ok (.iload_n 1, 1) := by decide +kernel
theorem d_M_applyDirectly_47 : decode c_M_applyDirectly 47 = .ok (.sipush 300, 3) := by decide +kernel
theorem d_M_applyDirectly_50 : decode c_M_applyDirectly 50 = .ok (.if_icmp .ne 26, 3) := by decide +kernel
theorem d_M_applyDirectly_53 : decode c_M_applyDirectly 53 = .ok (.iload_n 2, 1) := by decide +kernel
theorem d_M_applyDirectly_54 : decode c_M_applyDirectly 54 = .ok (.iconst 1, 1) := by decide +kernel
theorem d_M_applyDirectly_55 : decode c_M_applyDirectly 55 = .ok (.if_icmp .ne 21, 3) := by decide +kernel
theorem d_M_applyDirectly_58 : decode c_M_applyDirectly 58 = .ok (.aload_n 0, 1) := by decide +kernel
theorem d_M_applyDirectly_59 : decode c_M_applyDirectly 59 = .ok (.aload_n 0, 1) := by decide +kernel
theorem d_M_applyDirectly_60 : decode c_M_applyDirectly 60 = .ok (.getfield 24, 3) := by decide +kernel
theorem d_M_applyDirectly_63 : decode c_M_applyDirectly 63 = .ok (.iconst 1, 1) := by decide +kernel
theorem d_M_applyDirectly_64 : decode c_M_applyDirectly 64 = .ok (.iaload, 1) := by decide +kernel
theorem d_M_applyDirectly_65 : decode c_M_applyDirectly 65 = .ok (.putfield 44, 3) := by decide +kernel
theorem d_M_applyDirectly_68 : decode c_M_applyDirectly 68 = .ok (.aload_n 0, 1) := by decide +kernel
theorem d_M_applyDirectly_69 : decode c_M_applyDirectly 69 = .ok (.iconst 2, 1) := by decide +kernel
theorem d_M_applyDirectly_70 : decode c_M_applyDirectly 70 = .ok (.putfield 31, 3) := by decide +kernel
theorem d_M_applyDirectly_73 : decode c_M_applyDirectly 73 = .ok (.goto 8, 3) := by decide +kernel
theorem d_M_applyDirectly_76 : decode c_M_applyDirectly 76 = .ok (.aload_n 0, 1) := by decide +kernel
theorem d_M_applyDirectly_77 : decode c_M_applyDirectly 77 = .ok (.iconst 3, 1) := by decide +kernel
theorem d_M_applyDirectly_78 : decode c_M_applyDirectly 78 = .ok (.putfield 31, 3) := by decide +kernel
theorem d_M_applyDirectly_81 : decode c_M_applyDirectly 81 = .ok (.return_, 1) := by decide +kernel
theorem d_M_enter_0 : decode c_M_enter 0 = .ok (.aload_n 0, 1) := by decide +kernel
theorem d_M_enter_1 : decode c_M_enter 1 = .ok (.getfield 35, 3) := by decide +kernel
theorem d_M_enter_4 : decode c_M_enter 4 = .ok (.bipush 64, 2) := by decide +kernel
theorem d_M_enter_6 : decode c_M_enter 6 = .ok (.if_icmp .ne 9, 3) := by decide +kernel
theorem d_M_enter_9 : decode c_M_enter 9 = .ok (.aload_n 0, 1) := by decide +kernel
theorem d_M_enter_10 : decode c_M_enter 10 = .ok (.iconst 4, 1) := by decide +kernel
theorem d_M_enter_11 : decode c_M_enter 11 = .ok (.putfield 31, 3) := by decide +kernel
theorem d_M_enter_14 : decode c_M_enter 14 = .ok (.return_, 1) := by decide +kernel
theorem d_M_enter_15 : decode c_M_enter 15 = .ok (.aload_n 0, 1) := by decide +kernel
theorem d_M_enter_16 : decode c_M_enter 16 = .ok (.getfield 21, 3) := by decide +kernel
theorem d_M_enter_19 : decode c_M_enter 19 = .ok (.aload_n 0, 1) := by decide +kernel
theorem d_M_enter_20 : decode c_M_enter 20 = .ok (.invokevirtual 56, 3) := by decide +kernel
theorem d_M_enter_23 : decode c_M_enter 23 = .ok (.dup2, 1) := by decide +kernel
theorem d_M_enter_24 : decode c_M_enter 24 = .ok (.iaload, 1) := by decide +kernel
theorem d_M_enter_25 : decode c_M_enter 25 = .ok (.iconst 1, 1) := by decide +kernel
theorem d_M_enter_26 : decode c_M_enter 26 = .ok (.iload_n 1, 1) := by decide +kernel
theorem d_M_enter_27 : decode c_M_enter 27 = .ok (.ishl, 1) := by decide +kernel
theorem d_M_enter_28 : decode c_M_enter 28 = .ok (.ior, 1) := by decide +kernel
theorem d_M_enter_29 : decode c_M_enter 29 = .ok (.iastore, 1) := by decide +kernel
theorem d_M_enter_30 : decode c_M_enter 30 = .ok (.aload_n 0, 1) := by decide +kernel
theorem d_M_enter_31 : decode c_M_enter 31 = .ok (.dup, 1) := by decide +kernel
theorem d_M_enter_32 : decode c_M_enter 32 = .ok (.getfield 35, 3) := by decide +kernel
theorem d_M_enter_35 : decode c_M_enter 35 = .ok (.iconst 1, 1) := by decide +kernel
theorem d_M_enter_36 : decode c_M_enter 36 = .ok (.iadd, 1) := by decide +kernel
theorem d_M_enter_37 : decode c_M_enter 37 = .ok (.putfield 35, 3) := by decide +kernel
theorem d_M_enter_40 : decode c_M_enter 40 = .ok (.aload_n 0, 1) := by decide +kernel
theorem d_M_enter_41 : decode c_M_enter 41 = .ok (.getfield 11, 3) := by decide +kernel
theorem d_M_enter_44 : decode c_M_enter 44 = .ok (.aload_n 0, 1) := by decide +kernel
theorem d_M_enter_45 : decode c_M_enter 45 = .ok (.getfield 35, 3) := by decide +kernel
theorem d_M_enter_48 : decode c_M_enter 48 = .ok (.iload_n 1, 1) := by decide +kernel
theorem d_M_enter_49 : decode c_M_enter 49 = .ok (.iastore, 1) := by decide +kernel
theorem d_M_enter_50 : decode c_M_enter 50 = .ok (.aload_n 0, 1) := by decide +kernel
theorem d_M_enter_51 : decode c_M_enter 51 = .ok (.getfield 15, 3) := by decide +kernel
theorem d_M_enter_54 : decode c_M_enter 54 = .ok (.aload_n 0, 1) := by decide +kernel
theorem d_M_enter_55 : decode c_M_enter 55 = .ok (.getfield 35, 3) := by decide +kernel
theorem d_M_enter_58 : decode c_M_enter 58 = .ok (.iload_n 2, 1) := by decide +kernel
theorem d_M_enter_59 : decode c_M_enter 59 = .ok (.iastore, 1) := by decide +kernel
theorem d_M_enter_60 : decode c_M_enter 60 = .ok (.iconst 0, 1) := by decide +kernel
theorem d_M_enter_61 : decode c_M_enter 61 = .ok (.istore 4, 2) := by decide +kernel
theorem d_M_enter_63 : decode c_M_enter 63 = .ok (.iload 4, 2) := by decide +kernel
theorem d_M_enter_65 : decode c_M_enter 65 = .ok (.iload_n 3, 1) := by decide +kernel
theorem d_M_enter_66 : decode c_M_enter 66 = .ok (.if_icmp .ge 32, 3) := by decide +kernel
theorem d_M_enter_69 : decode c_M_enter 69 = .ok (.aload_n 0, 1) := by decide +kernel
theorem d_M_enter_70 : decode c_M_enter 70 = .ok (.getfield 18, 3) := by decide +kernel
theorem d_M_enter_73 : decode c_M_enter 73 = .ok (.aload_n 0, 1) := by decide +kernel
theorem d_M_enter_74 : decode c_M_enter 74 = .ok (.getfield 35, 3) := by decide +kernel
theorem d_M_enter_77 : decode c_M_enter 77 = .ok (.iconst 3, 1) := by decide +kernel
theorem d_M_enter_78 : decode c_M_enter 78 = .ok (.imul, 1) := by decide +kernel
theorem d_M_enter_79 : decode c_M_enter 79 = .ok (.iload 4, 2) := by decide +kernel
theorem d_M_enter_81 : decode c_M_enter 81 = .ok (.iadd, 1) := by decide +kernel
theorem d_M_enter_82 : decode c_M_enter 82 = .ok (.aload_n 0, 1) := by decide +kernel
theorem d_M_enter_83 : decode c_M_enter 83 = .ok (.getfield 24, 3) := by decide +kernel
theorem d_M_enter_86 : decode c_M_enter 86 = .ok (.iconst 1, 1) := by decide +kernel
theorem d_M_enter_87 : decode c_M_enter 87 = .ok (.iload 4, 2) := by decide +kernel
theorem d_M_enter_89 : decode c_M_enter 89 = .ok (.iadd, 1) := by decide +kernel
theorem d_M_enter_90 : decode c_M_enter 90 = .ok (.iaload, 1) := by decide +kernel
theorem d_M_enter_91 : decode c_M_enter 91 = .ok (.iastore, 1) := by decide +kernel
theorem d_M_enter_92 : decode c_M_enter 92 = .ok (.iinc 4 1, 3) := by decide +kernel
theorem d_M_enter_95 : decode c_M_enter 95 = .ok (.goto (-32), 3) := by decide +kernel
theorem d_M_enter_98 : decode c_M_enter 98 = .ok (.return_, 1) := by decide +kernel
theorem d_M_phase_0 : decode c_M_phase 0 = .ok (.aload_n 0, 1) := by decide +kernel
theorem d_M_phase_1 : decode c_M_phase 1 = .ok (.getfield 31, 3) := by decide +kernel
theorem d_M_phase_4 : decode c_M_phase 4 = .ok (.ireturn, 1) := by decide +kernel
theorem d_M_outcome_0 : decode c_M_outcome 0 = .ok (.aload_n 0, 1) := by decide +kernel
theorem d_M_outcome_1 : decode c_M_outcome 1 = .ok (.getfield 44, 3) := by decide +kernel
theorem d_M_outcome_4 : decode c_M_outcome 4 = .ok (.ireturn, 1) := by decide +kernel
theorem d_M_calledFrom_0 : decode c_M_calledFrom 0 = .ok (.aload_n 0, 1) := by decide +kernel
theorem d_M_calledFrom_1 : decode c_M_calledFrom 1 = .ok (.getfield 21, 3) := by decide +kernel
theorem d_M_calledFrom_4 : decode c_M_calledFrom 4 = .ok (.iload_n 1, 1) := by decide +kernel
theorem d_M_calledFrom_5 : decode c_M_calledFrom 5 = .ok (.iaload, 1) := by decide +kernel
theorem d_M_calledFrom_6 : decode c_M_calledFrom 6 = .ok (.ireturn, 1) := by decide +kernel
