theorem d_R_init_0 : decode c_R_init 0 = .ok (.aload_n 0, 1) := by decide +kernel
theorem d_R_init_1 : decode c_R_init 1 = .ok (.invokespecial 1, 3) := by decide +kernel
theorem d_R_init_4 : decode c_R_init 4 = .ok (.aload_n 0, 1) := by decide +kernel
theorem d_R_init_5 : decode c_R_init 5 = .ok (.iconst 1, 1) := by decide +kernel
theorem d_R_init_6 : decode c_R_init 6 = .ok (.putfield 7, 3) := by decide +kernel
theorem d_R_init_9 : decode c_R_init 9 = .ok (.aload_n 0, 1) := by decide +kernel
theorem d_R_init_10 : decode c_R_init 10 = .ok (.bipush 8, 2) := by decide +kernel
theorem d_R_init_12 : decode c_R_init 12 = .ok (.newarray .int, 2) := by decide +kernel
theorem d_R_init_14 : decode c_R_init 14 = .ok (.putfield 13, 3) := by decide +kernel
theorem d_R_init_17 : decode c_R_init 17 = .ok (.aload_n 0, 1) := by decide +kernel
theorem d_R_init_18 : decode c_R_init 18 = .ok (.bipush 8, 2) := by decide +kernel
theorem d_R_init_20 : decode c_R_init 20 = .ok (.newarray .int, 2) := by decide +kernel
theorem d_R_init_22 : decode c_R_init 22 = .ok (.putfield 17, 3) := by decide +kernel
theorem d_R_init_25 : decode c_R_init 25 = .ok (.aload_n 0, 1) := by decide +kernel
theorem d_R_init_26 : decode c_R_init 26 = .ok (.bipush 8, 2) := by decide +kernel
theorem d_R_init_28 : decode c_R_init 28 = .ok (.newarray .int, 2) := by decide +kernel
theorem d_R_init_30 : decode c_R_init 30 = .ok (.putfield 20, 3) := by decide +kernel
theorem d_R_init_33 : decode c_R_init 33 = .ok (.aload_n 0, 1) := by decide +kernel
theorem d_R_init_34 : decode c_R_init 34 = .ok (.bipush 32, 2) := by decide +kernel
theorem d_R_init_36 : decode c_R_init 36 = .ok (.newarray .int, 2) := by decide +kernel
theorem d_R_init_38 : decode c_R_init 38 = .ok (.putfield 23, 3) := by decide +kernel
theorem d_R_init_41 : decode c_R_init 41 = .ok (.aload_n 0, 1) := by decide +kernel
theorem d_R_init_42 : decode c_R_init 42 = .ok (.bipush 8, 2) := by decide +kernel
theorem d_R_init_44 : decode c_R_init 44 = .ok (.newarray .int, 2) := by decide +kernel
theorem d_R_init_46 : decode c_R_init 46 = .ok (.putfield 26, 3) := by decide +kernel
theorem d_R_init_49 : decode c_R_init 49 = .ok (.aload_n 0, 1) := by decide +kernel
theorem d_R_init_50 : decode c_R_init 50 = .ok (.bipush 65, 2) := by decide +kernel
theorem d_R_init_52 : decode c_R_init 52 = .ok (.newarray .int, 2) := by decide +kernel
theorem d_R_init_54 : decode c_R_init 54 = .ok (.putfield 29, 3) := by decide +kernel
theorem d_R_init_57 : decode c_R_init 57 = .ok (.aload_n 0, 1) := by decide +kernel
theorem d_R_init_58 : decode c_R_init 58 = .ok (.bipush 65, 2) := by decide +kernel
theorem d_R_init_60 : decode c_R_init 60 = .ok (.newarray .int, 2) := by decide +kernel
theorem d_R_init_62 : decode c_R_init 62 = .ok (.putfield 32, 3) := by decide +kernel
theorem d_R_init_65 : decode c_R_init 65 = .ok (.aload_n 0, 1) := by decide +kernel
theorem d_R_init_66 : decode c_R_init 66 = .ok (.sipush 195, 3) := by decide +kernel
theorem d_R_init_69 : decode c_R_init 69 = .ok (.newarray .int, 2) := by decide +kernel
theorem d_R_init_71 : decode c_R_init 71 = .ok (.putfield 35, 3) := by decide +kernel
theorem d_R_init_74 : decode c_R_init 74 = .ok (.aload_n 0, 1) := by decide +kernel
theorem d_R_init_75 : decode c_R_init 75 = .ok (.iconst 4, 1) := by decide +kernel
theorem d_R_init_76 : decode c_R_init 76 = .ok (.newarray .int, 2) := by decide +kernel
theorem d_R_init_78 : decode c_R_init 78 = .ok (.putfield 38, 3) := by decide +kernel
theorem d_R_init_81 : decode c_R_init 81 = .ok (.aload_n 0, 1) := by decide +kernel
theorem d_R_init_82 : decode c_R_init 82 = .ok (.sipush 192, 3) := by decide +kernel
theorem d_R_init_85 : decode c_R_init 85 = .ok (.newarray .int, 2) := by decide +kernel
theorem d_R_init_87 : decode c_R_init 87 = .ok (.putfield 41, 3) := by decide +kernel
theorem d_R_init_90 : decode c_R_init 90 = .ok (.aload_n 0, 1) := by decide +kernel
theorem d_R_init_91 : decode c_R_init 91 = .ok (.sipush 192, 3) := by decide +kernel
theorem d_R_init_94 : decode c_R_init 94 = .ok (.newarray .long, 2) := by decide +kernel
theorem d_R_init_96 : decode c_R_init 96 = .ok (.putfield 44, 3) := by decide +kernel
theorem d_R_init_99 : decode c_R_init 99 = .ok (.aload_n 0, 1) := by decide +kernel
theorem d_R_init_100 : decode c_R_init 100 = .ok (.bipush 8, 2) := by decide +kernel
theorem d_R_init_102 : decode c_R_init 102 = .ok (.newarray .int, 2) := by decide +kernel
theorem d_R_init_104 : decode c_R_init 104 = .ok (.putfield 48, 3) := by decide +kernel
theorem d_R_init_107 : decode c_R_init 107 = .ok (.aload_n 0, 1) := by decide +kernel
theorem d_R_init_108 : decode c_R_init 108 = .ok (.iconst 4, 1) := by decide +kernel
theorem d_R_init_109 : decode c_R_init 109 = .ok (.newarray .int, 2) := by decide +kernel
theorem d_R_init_111 : decode c_R_init 111 = .ok (.putfield 51, 3) := by decide +kernel
theorem d_R_init_114 : decode c_R_init 114 = .ok (.aload_n 0, 1) := by decide +kernel
theorem d_R_init_115 : decode c_R_init 115 = .ok (.iconst 4, 1) := by decide +kernel
theorem d_R_init_116 : decode c_R_init 116 = .ok (.newarray .long, 2) := by decide +kernel
theorem d_R_init_118 : decode c_R_init 118 = .ok (.putfield 54, 3) := by decide +kernel
theorem d_R_init_121 : decode c_R_init 121 = .ok (.aload_n 0, 1) := by decide +kernel
theorem d_R_init_122 : decode c_R_init 122 = .ok (.getfield 13, 3) := by decide +kernel
theorem d_R_init_125 : decode c_R_init 125 = .ok (.iconst 0, 1) := by decide +kernel
theorem d_R_init_126 : decode c_R_init 126 = .ok (.iconst (-1), 1) := by decide +kernel
theorem d_R_init_127 : decode c_R_init 127 = .ok (.iastore, 1) := by decide +kernel
theorem d_R_init_128 : decode c_R_init 128 = .ok (.return_, 1) := by decide +kernel
theorem d_R_lambda_0 : decode c_R_lambda 0 = .ok (.aload_n 0, 1) := by decide +kernel
theorem d_R_lambda_1 : decode c_R_lambda 1 = .ok (.iload_n 1, 1) := by decide +kernel
theorem d_R_lambda_2 : decode c_R_lambda 2 = .ok (.invokevirtual 64, 3) := by decide +kernel
theorem d_R_lambda_5 : decode c_R_lambda 5 = .ok (.ifCond .eq 21, 3) := by decide +kernel
theorem d_R_lambda_8 : decode c_R_lambda 8 = .ok (.iload_n 2, 1) := by decide +kernel
theorem d_R_lambda_9 : decode c_R_lambda 9 = .ok (.ifCond .lt 17, 3) := by decide +kernel
theorem d_R_lambda_12 : decode c_R_lambda 12 = .ok (.iload_n 2, 1) := by decide +kernel
theorem d_R_lambda_13 : decode c_R_lambda 13 = .ok (.iconst 3, 1) := by decide +kernel
theorem d_R_lambda_14 : decode c_R_lambda 14 = .ok (.if_icmp .gt 12, 3) := by decide +kernel
theorem d_R_lambda_17 : decode c_R_lambda 17 = .ok (.aload_n 0, 1) := by decide +kernel
theorem d_R_lambda_18 : decode c_R_lambda 18 = .ok (.getfield 7, 3) := by decide +kernel
theorem d_R_lambda_21 : decode c_R_lambda 21 = .ok (.bipush 8, 2) := by decide +kernel
theorem d_R_lambda_23 : decode c_R_lambda 23 = .ok (.if_icmp .ne 5, 3) := by decide +kernel
theorem d_R_lambda_26 : decode c_R_lambda 26 = .ok (.iconst (-1), 1) := by decide +kernel
theorem d_R_lambda_27 : decode c_R_lambda 27 = .ok (.ireturn, 1) := by decide +kernel
theorem d_R_lambda_28 : decode c_R_lambda 28 = .ok (.aload_n 0, 1) := by decide +kernel
theorem d_R_lambda_29 : decode c_R_lambda 29 = .ok (.getfield 13, 3) := by decide +kernel
theorem d_R_lambda_32 : decode c_R_lambda 32 = .ok (.aload_n 0, 1) := by decide +kernel
theorem d_R_lambda_33 : decode c_R_lambda 33 = .ok (.getfield 7, 3) := by decide +kernel
theorem d_R_lambda_36 : decode c_R_lambda 36 = .ok (.iload_n 1, 1) := by decide +kernel
theorem d_R_lambda_37 : decode c_R_lambda 37 = .ok (.iastore, 1) := by decide +kernel
theorem d_R_lambda_38 : decode c_R_lambda 38 = .ok (.aload_n 0, 1) := by decide +kernel
theorem d_R_lambda_39 : decode c_R_lambda 39 = .ok (.getfield 17, 3) := by decide +kernel
theorem d_R_lambda_42 : decode c_R_lambda 42 = .ok (.aload_n 0, 1) := by decide +kernel
theorem d_R_lambda_43 : decode c_R_lambda 43 = .ok (.getfield 7, 3) := by decide +kernel
theorem d_R_lambda_46 : decode c_R_lambda 46 = .ok (.iload_n 2, 1) := by decide +kernel
theorem d_R_lambda_47 : decode c_R_lambda 47 = .ok (.iastore, 1) := by decide +kernel
theorem d_R_lambda_48 : decode c_R_lambda 48 = .ok (.aload_n 0, 1) := by decide +kernel
theorem d_R_lambda_49 : decode c_R_lambda 49 = .ok (.getfield 20, 3) := by decide +kernel
theorem d_R_lambda_52 : decode c_R_lambda 52 = .ok (.aload_n 0, 1) := by decide +kernel
theorem d_R_lambda_53 : decode c_R_lambda 53 = .ok (.getfield 7, 3) := by decide +kernel
theorem d_R_lambda_56 : decode c_R_lambda 56 = .ok (.iconst 0, 1) := by decide +kernel
theorem d_R_lambda_57 : decode c_R_lambda 57 = .ok (.iastore, 1) := by decide +kernel
theorem d_R_lambda_58 : decode c_R_lambda 58 = .ok (.aload_n 0, 1) := by decide +kernel
theorem d_R_lambda_59 : decode c_R_lambda 59 = .ok (.dup, 1) := by decide +kernel
theorem d_R_lambda_60 : decode c_R_lambda 60 = .ok (.getfield 7, 3) := by decide +kernel
theorem d_R_lambda_63 : decode c_R_lambda 63 = .ok (.iconst 1, 1) := by decide +kernel
theorem d_R_lambda_64 : decode c_R_lambda 64 = .ok (.iadd, 1) := by decide +kernel
theorem d_R_lambda_65 : decode c_R_lambda 65 = .ok (.putfield 7, 3) := by decide +kernel
theorem d_R_lambda_68 : decode c_R_lambda 68 = .ok (.aload_n 0, 1) := by decide +kernel
theorem d_R_lambda_69 : decode c_R_lambda 69 = .ok (.invokevirtual 68, 3) := by decide +kernel
theorem d_R_lambda_72 : decode c_R_lambda 72 = .ok (.aload_n 0, 1) := by decide +kernel
theorem d_R_lambda_73 : decode c_R_lambda 73 = .ok (.getfield 7, 3) := by decide +kernel
theorem d_R_lambda_76 : decode c_R_lambda 76 = .ok (.iconst 1, 1) := by decide +kernel
theorem d_R_lambda_77 : decode c_R_lambda 77 = .ok (.isub, 1) := by decide +kernel
theorem d_R_lambda_78 : decode c_R_lambda 78 = .ok (.ireturn, 1) := by decide +kernel
theorem d_R_isLambda_0 : decode c_R_isLambda 0 = .ok (.iload_n 1, 1) := by decide +kernel
theorem d_R_isLambda_1 : decode c_R_isLambda 1 = .ok (.ifCond .lt 15, 3) := by decide +kernel
theorem d_R_isLambda_4 : decode c_R_isLambda 4 = .ok (.iload_n 1, 1) := by decide +kernel
theorem d_R_isLambda_5 : decode c_R_isLambda 5 = .ok (.aload_n 0, 1) := by decide +kernel
theorem d_R_isLambda_6 : decode c_R_isLambda 6 = .ok (.getfield 7, 3) := by decide +kernel
theorem d_R_isLambda_9 : decode c_R_isLambda 9 = .ok (.if_icmp .ge 7, 3) := by decide +kernel
theorem d_R_isLambda_12 : decode c_R_isLambda 12 = .ok (.iconst 1, 1) := by decide +kernel
theorem d_R_isLambda_13 : decode c_R_isLambda 13 = .ok (.goto 4, 3) := by decide +kernel
theorem d_R_isLambda_16 : decode c_R_isLambda 16 = .ok (.iconst 0, 1) := by decide +kernel
theorem d_R_isLambda_17 : decode c_R_isLambda 17 = .ok (.ireturn, 1) := by decide +kernel
theorem d_R_change_0 : decode c_R_change 0 = .ok (.aload_n 0, 1) := by decide +kernel
theorem d_R_change_1 : decode c_R_change 1 = .ok (.iconst 0, 1) := by decide +kernel
theorem d_R_change_2 : decode c_R_change 2 = .ok (.putfield 57, 3) := by decide +kernel
theorem d_R_change_5 : decode c_R_change 5 = .ok (.aload_n 0, 1) := by decide +kernel
theorem d_R_change_6 : decode c_R_change 6 = .ok (.iconst 0, 1) := by decide +kernel
theorem d_R_change_7 : decode c_R_change 7 = .ok (.putfield 60, 3) := by decide +kernel
theorem d_R_change_10 : decode c_R_change 10 = .ok (.return_, 1) := by decide +kernel
theorem d_R_put_0 : decode c_R_put 0 = .ok (.aload_n 0, 1) := by decide +kernel
theorem d_R_put_1 : decode c_R_put 1 = .ok (.iload_n 1, 1) := by decide +kernel
theorem d_R_put_2 : decode c_R_put 2 = .ok (.invokevirtual 64, 3) := by decide +kernel
theorem d_R_put_5 : decode c_R_put 5 = .ok (.ifCond .eq 22, 3) := by decide +kernel
theorem d_R_put_8 : decode c_R_put 8 = .ok (.aload_n 0, 1) := by decide +kernel
theorem d_R_put_9 : decode c_R_put 9 = .ok (.getfield 20, 3) := by decide +kernel
theorem d_R_put_12 : decode c_R_put 12 = .ok (.iload_n 1, 1) := by decide +kernel
theorem d_R_put_13 : decode c_R_put 13 = .ok (.iaload, 1) := by decide +kernel
theorem d_R_put_14 : decode c_R_put 14 = .ok (.iconst 4, 1) := by decide +kernel
theorem d_R_put_15 : decode c_R_put 15 = .ok (.if_icmp .eq 12, 3) := by decide +kernel
theorem d_R_put_18 : decode c_R_put 18 = .ok (.aload_n 0, 1) := by decide +kernel
theorem d_R_put_19 : decode c_R_put 19 = .ok (.iload_n 1, 1) := by decide +kernel
theorem d_R_put_20 : decode c_R_put 20 = .ok (.iload_n 2, 1) := by decide +kernel
theorem d_R_put_21 : decode c_R_put 21 = .ok (.invokevirtual 75, 3) := by decide +kernel
theorem d_R_put_24 : decode c_R_put 24 = .ok (.ifCond .ne 5, 3) := by decide +kernel
theorem d_R_put_27 : decode c_R_put 27 = .ok (.iconst 0, 1) := by decide +kernel
theorem d_R_put_28 : decode c_R_put 28 = .ok (.ireturn, 1) := by decide +kernel
theorem d_R_put_29 : decode c_R_put 29 = .ok (.aload_n 0, 1) := by decide +kernel
theorem d_R_put_30 : decode c_R_put 30 = .ok (.getfield 23, 3) := by decide +kernel
theorem d_R_put_33 : decode c_R_put 33 = .ok (.iconst 4, 1) := by decide +kernel
theorem d_R_put_34 : decode c_R_put 34 = .ok (.iload_n 1, 1) := by decide +kernel
theorem d_R_put_35 : decode c_R_put 35 = .ok (.imul, 1) := by decide +kernel
theorem d_R_put_36 : decode c_R_put 36 = .ok (.aload_n 0, 1) := by decide +kernel
theorem d_R_put_37 : decode c_R_put 37 = .ok (.getfield 20, 3) := by decide +kernel
theorem d_R_put_40 : decode c_R_put 40 = .ok (.iload_n 1, 1) := by decide +kernel
theorem d_R_put_41 : decode c_R_put 41 = .ok (.iaload, 1) := by decide +kernel
theorem d_R_put_42 : decode c_R_put 42 = .ok (.iadd, 1) := by decide +kernel
theorem d_R_put_43 : decode c_R_put 43 = .ok (.iload_n 2, 1) := by decide +kernel
theorem d_R_put_44 : decode c_R_put 44 = .ok (.iastore, 1) := by decide +kernel
theorem d_R_put_45 : decode c_R_put 45 = .ok (.aload_n 0, 1) := by decide +kernel
theorem d_R_put_46 : decode c_R_put 46 = .ok (.getfield 20, 3) := by decide +kernel
theorem d_R_put_49 : decode c_R_put 49 = .ok (.iload_n 1, 1) := by decide +kernel
theorem d_R_put_50 : decode c_R_put 50 = .ok (.dup2, 1) := by decide +kernel
theorem d_R_put_51 : decode c_R_put 51 = .ok (.iaload, 1) := by decide +kernel
theorem d_R_put_52 : decode c_R_put 52 = .ok (.iconst 1, 1) := by decide +kernel
theorem d_R_put_53 : decode c_R_put 53 = .ok (.iadd, 1) := by decide +kernel
theorem d_R_put_54 : decode c_R_put 54 = .ok (.iastore, 1) := by decide +kernel
theorem d_R_put_55 : decode c_R_put 55 = .ok (.aload_n 0, 1) := by decide +kernel
theorem d_R_put_56 : decode c_R_put 56 = .ok (.invokevirtual 68, 3) := by decide +kernel
theorem d_R_put_59 : decode c_R_put 59 = .ok (.iconst 1, 1) := by decide +kernel
theorem d_R_put_60 : decode c_R_put 60 = .ok (.ireturn, 1) := by decide +kernel
theorem d_R_mayStand_0 : decode c_R_mayStand 0 = .ok (.iload_n 2, 1) := by decide +kernel
theorem d_R_mayStand_1 : decode c_R_mayStand 1 = .ok (.ifCond .lt 9, 3) := by decide +kernel
theorem d_R_mayStand_4 : decode c_R_mayStand 4 = .ok (.iload_n 2, 1) := by decide +kernel
theorem d_R_mayStand_5 : decode c_R_mayStand 5 = .ok (.bipush 9, 2) := by decide +kernel
theorem d_R_mayStand_7 : decode c_R_mayStand 7 = .ok (.if_icmp .le 17, 3) := by decide +kernel
theorem d_R_mayStand_10 : decode c_R_mayStand 10 = .ok (.iload_n 2, 1) := by decide +kernel
theorem d_R_mayStand_11 : decode c_R_mayStand 11 = .ok (.sipush 300, 3) := by decide +kernel
theorem d_R_mayStand_14 : decode c_R_mayStand 14 = .ok (.if_icmp .lt 12, 3) := by decide +kernel
theorem d_R_mayStand_17 : decode c_R_mayStand 17 = .ok (.iload_n 2, 1) := by decide +kernel
theorem d_R_mayStand_18 : decode c_R_mayStand 18 = .ok (.sipush 302, 3) := by decide +kernel
theorem d_R_mayStand_21 : decode c_R_mayStand 21 = .ok (.if_icmp .gt 5, 3) := by decide +kernel
theorem d_R_mayStand_24 : decode c_R_mayStand 24 = .ok (.iconst 1, 1) := by decide +kernel
theorem d_R_mayStand_25 : decode c_R_mayStand 25 = .ok (.ireturn, 1) := by decide +kernel
theorem d_R_mayStand_26 : decode c_R_mayStand 26 = .ok (.iload_n 2, 1) := by decide +kernel
theorem d_R_mayStand_27 : decode c_R_mayStand 27 = .ok (.sipush 200, 3) := by decide +kernel
theorem d_R_mayStand_30 : decode c_R_mayStand 30 = .ok (.if_icmp .lt 44, 3) := by decide +kernel
theorem d_R_mayStand_33 : decode c_R_mayStand 33 = .ok (.iload_n 2, 1) := by decide +kernel
theorem d_R_mayStand_34 : decode c_R_mayStand 34 = .ok (.sipush 208, 3) := by decide +kernel
theorem d_R_mayStand_37 : decode c_R_mayStand 37 = .ok (.if_icmp .ge 37, 3) := by decide +kernel
theorem d_R_mayStand_40 : decode c_R_mayStand 40 = .ok (.iload_n 2, 1) := by decide +kernel
theorem d_R_mayStand_41 : decode c_R_mayStand 41 = .ok (.sipush 200, 3) := by decide +kernel
theorem d_R_mayStand_44 : decode c_R_mayStand 44 = .ok (.isub, 1) := by decide +kernel
theorem d_R_mayStand_45 : decode c_R_mayStand 45 = .ok (.istore_n 3, 1) := by decide +kernel
theorem d_R_mayStand_46 : decode c_R_mayStand 46 = .ok (.iload_n 3, 1) := by decide +kernel
theorem d_R_mayStand_47 : decode c_R_mayStand 47 = .ok (.ifCond .le 25, 3) := by decide +kernel
theorem d_R_mayStand_50 : decode c_R_mayStand 50 = .ok (.aload_n 0, 1) := by decide +kernel
theorem d_R_mayStand_51 : decode c_R_mayStand 51 = .ok (.iload_n 3, 1) := by decide +kernel
theorem d_R_mayStand_52 : decode c_R_mayStand 52 = .ok (.invokevirtual 64, 3) := by decide +kernel
theorem d_R_mayStand_55 : decode c_R_mayStand 55 = .ok (.ifCond .eq 17, 3) := by decide +kernel
theorem d_R_mayStand_58 : decode c_R_mayStand 58 = .ok (.aload_n 0, 1) := by decide +kernel
theorem d_R_mayStand_59 : decode c_R_mayStand 59 = .ok (.getfield 13, 3) := by decide +kernel
theorem d_R_mayStand_62 : decode c_R_mayStand 62 = .ok (.iload_n 3, 1) := by decide +kernel
theorem d_R_mayStand_63 : decode c_R_mayStand 63 = .ok (.iaload, 1) := by decide +kernel
theorem d_R_mayStand_64 : decode c_R_mayStand 64 = .ok (.iload_n 1, 1) := by decide +kernel
theorem d_R_mayStand_65 : decode c_R_mayStand 65 = .ok (.if_icmp .ne 7, 3) := by decide +kernel
theorem d_R_mayStand_68 : decode c_R_mayStand 68 = .ok (.iconst 1, 1) := by decide +kernel
theorem d_R_mayStand_69 : decode c_R_mayStand 69 = .ok (.goto 4, 3) := by decide +kernel
theorem d_R_mayStand_72 : decode c_R_mayStand 72 = .ok (.iconst 0, 1) := by decide +kernel
theorem d_R_mayStand_73 : decode c_R_mayStand 73 = .ok (.ireturn, 1) := by decide +kernel
theorem d_R_mayStand_74 : decode c_R_mayStand 74 = .ok (.iload_n 2, 1) := by decide +kernel
theorem d_R_mayStand_75 : decode c_R_mayStand 75 = .ok (.bipush 100, 2) := by decide +kernel
theorem d_R_mayStand_77 : decode c_R_mayStand 77 = .ok (.if_icmp .lt 10, 3) := by decide +kernel
theorem d_R_mayStand_80 : decode c_R_mayStand 80 = .ok (.iload_n 2, 1) := by decide +kernel
theorem d_R_mayStand_81 : decode c_R_mayStand 81 = .ok (.sipush 179, 3) := by decide +kernel
theorem d_R_mayStand_84 : decode c_R_mayStand 84 = .ok (.if_icmp .le 5, 3) := by decide +kernel
theorem d_R_mayStand_87 : decode c_R_mayStand 87 = .ok (.iconst 0, 1) := by decide +kernel
theorem d_R_mayStand_88 : decode c_R_mayStand 88 = .ok (.ireturn, 1) := by decide +kernel
theorem d_R_mayStand_89 : decode c_R_mayStand 89 = .ok (.iload_n 2, 1) := by decide +kernel
theorem d_R_mayStand_90 : decode c_R_mayStand 90 = .ok (.bipush 100, 2) := by decide +kernel
theorem d_R_mayStand_92 : decode c_R_mayStand 92 = .ok (.isub, 1) := by decide +kernel
theorem d_R_mayStand_93 : decode c_R_mayStand 93 = .ok (.bipush 10, 2) := by decide +kernel
theorem d_R_mayStand_95 : decode c_R_mayStand 95 = .ok (.idiv, 1) := by decide +kernel
theorem d_R_mayStand_96 : decode c_R_mayStand 96 = .ok (.istore_n 3, 1) := by decide +kernel
theorem d_R_mayStand_97 : decode c_R_mayStand 97 = .ok (.aload_n 0, 1) := by decide +kernel
theorem d_R_mayStand_98 : decode c_R_mayStand 98 = .ok (.iload_n 3, 1) := by decide +kernel
theorem d_R_mayStand_99 : decode c_R_mayStand 99 = .ok (.invokevirtual 64, 3) := by decide +kernel
theorem d_R_mayStand_102 : decode c_R_mayStand 102 = .ok (.ifCond .eq 29, 3) := by decide +kernel
theorem d_R_mayStand_105 : decode c_R_mayStand 105 = .ok (.iload_n 2, 1) := by decide +kernel
theorem d_R_mayStand_106 : decode c_R_mayStand 106 = .ok (.bipush 10, 2) := by decide +kernel
theorem d_R_mayStand_108 : decode c_R_mayStand 108 = .ok (.irem, 1) := by decide +kernel
theorem d_R_mayStand_109 : decode c_R_mayStand 109 = .ok (.aload_n 0, 1) := by decide +kernel
theorem d_R_mayStand_110 : decode c_R_mayStand 110 = .ok (.getfield 17, 3) := by decide +kernel
theorem d_R_mayStand_113 : decode c_R_mayStand 113 = .ok (.iload_n 3, 1) := by decide +kernel
theorem d_R_mayStand_114 : decode c_R_mayStand 114 = .ok (.iaload, 1) := by decide +kernel
theorem d_R_mayStand_115 : decode c_R_mayStand 115 = .ok (.if_icmp .ge 16, 3) := by decide +kernel
theorem d_R_mayStand_118 : decode c_R_mayStand 118 = .ok (.aload_n 0, 1) := by decide +kernel
theorem d_R_mayStand_119 : decode c_R_mayStand 119 = .ok (.iload_n 3, 1) := by decide +kernel
theorem d_R_mayStand_120 : decode c_R_mayStand 120 = .ok (.iload_n 1, 1) := by decide +kernel
theorem d_R_mayStand_121 : decode c_R_mayStand 121 = .ok (.invokevirtual 71, 3) := by decide +kernel
theorem d_R_mayStand_124 : decode c_R_mayStand 124 = .ok (.ifCond .eq 7, 3) := by decide +kernel
theorem d_R_mayStand_127 : decode c_R_mayStand 127 = .ok (.iconst 1, 1) := by decide +kernel
theorem d_R_mayStand_128 : decode c_R_mayStand 128 = .ok (.goto 4, 3) := by decide +kernel
theorem d_R_mayStand_131 : decode c_R_mayStand 131 = .ok (.iconst 0, 1) := by decide +kernel
theorem d_R_mayStand_132 : decode c_R_mayStand 132 = .ok (.ireturn, 1) := by decide +kernel
theorem d_R_around_0 : decode c_R_around 0 = .ok (.iload_n 2, 1) := by decide +kernel
theorem d_R_around_1 : decode c_R_around 1 = .ok (.istore_n 3, 1) := by decide +kernel
theorem d_R_around_2 : decode c_R_around 2 = .ok (.iload_n 3, 1) := by decide +kernel
theorem d_R_around_3 : decode c_R_around 3 = .ok (.iload_n 1, 1) := by decide +kernel
theorem d_R_around_4 : decode c_R_around 4 = .ok (.if_icmp .le 13, 3) := by decide +kernel
theorem d_R_around_7 : decode c_R_around 7 = .ok (.aload_n 0, 1) := by decide +kernel
theorem d_R_around_8 : decode c_R_around 8 = .ok (.getfield 13, 3) := by decide +kernel
theorem d_R_around_11 : decode c_R_around 11 = .ok (.iload_n 3, 1) := by decide +kernel
theorem d_R_around_12 : decode c_R_around 12 = .ok (.iaload, 1) := by decide +kernel
theorem d_R_around_13 : decode c_R_around 13 = .ok (.istore_n 3, 1) := by decide +kernel
theorem d_R_around_14 : decode c_R_around 14 = .ok (.goto (-12), 3) := by decide +kernel
theorem d_R_around_17 : decode c_R_around 17 = .ok (.iload_n 3, 1) := by decide +kernel
theorem d_R_around_18 : decode c_R_around 18 = .ok (.iload_n 1, 1) := by decide +kernel
theorem d_R_around_19 : decode c_R_around 19 = .ok (.if_icmp .ne 7, 3) := by decide +kernel
theorem d_R_around_22 : decode c_R_around 22 = .ok (.iconst 1, 1) := by decide +kernel
theorem d_R_around_23 : decode c_R_around 23 = .ok (.goto 4, 3) := by decide +kernel
theorem d_R_around_26 : decode c_R_around 26 = .ok (.iconst 0, 1) := by decide +kernel
theorem d_R_around_27 : decode c_R_around 27 = .ok (.ireturn, 1) := by decide +kernel
theorem d_R_clear_0 : decode c_R_clear 0 = .ok (.aload_n 0, 1) := by decide +kernel
theorem d_R_clear_1 : decode c_R_clear 1 = .ok (.iconst 1, 1) := by decide +kernel
theorem d_R_clear_2 : decode c_R_clear 2 = .ok (.putfield 7, 3) := by decide +kernel
theorem d_R_clear_5 : decode c_R_clear 5 = .ok (.aload_n 0, 1) := by decide +kernel
theorem d_R_clear_6 : decode c_R_clear 6 = .ok (.getfield 20, 3) := by decide +kernel
theorem d_R_clear_9 : decode c_R_clear 9 = .ok (.iconst 0, 1) := by decide +kernel
theorem d_R_clear_10 : decode c_R_clear 10 = .ok (.iconst 0, 1) := by decide +kernel
theorem d_R_clear_11 : decode c_R_clear 11 = .ok (.iastore, 1) := by decide +kernel
theorem d_R_clear_12 : decode c_R_clear 12 = .ok (.aload_n 0, 1) := by decide +kernel
theorem d_R_clear_13 : decode c_R_clear 13 = .ok (.invokevirtual 68, 3) := by decide +kernel
theorem d_R_clear_16 : decode c_R_clear 16 = .ok (.return_, 1) := by decide +kernel
theorem d_R_lambdas_0 : decode c_R_lambdas 0 = .ok (.aload_n 0, 1) := by decide +kernel
theorem d_R_lambdas_1 : decode c_R_lambdas 1 = .ok (.getfield 7, 3) := by decide +kernel
theorem d_R_lambdas_4 : decode c_R_lambdas 4 = .ok (.ireturn, 1) := by decide +kernel
theorem d_R_atom_0 : decode c_R_atom 0 = .ok (.aload_n 0, 1) := by decide +kernel
theorem d_R_atom_1 : decode c_R_atom 1 = .ok (.iload_n 1, 1) := by decide +kernel
theorem d_R_atom_2 : decode c_R_atom 2 = .ok (.invokevirtual 64, 3) := by decide +kernel
theorem d_R_atom_5 : decode c_R_atom 5 = .ok (.ifCond .eq 17, 3) := by decide +kernel
theorem d_R_atom_8 : decode c_R_atom 8 = .ok (.iload_n 2, 1) := by decide +kernel
theorem d_R_atom_9 : decode c_R_atom 9 = .ok (.ifCond .lt 13, 3) := by decide +kernel
theorem d_R_atom_12 : decode c_R_atom 12 = .ok (.iload_n 2, 1) := by decide +kernel
theorem d_R_atom_13 : decode c_R_atom 13 = .ok (.aload_n 0, 1) := by decide +kernel
theorem d_R_atom_14 : decode c_R_atom 14 = .ok (.getfield 20, 3) := by decide +kernel
theorem d_R_atom_17 : decode c_R_atom 17 = .ok (.iload_n 1, 1) := by decide +kernel
theorem d_R_atom_18 : decode c_R_atom 18 = .ok (.iaload, 1) := by decide +kernel
theorem d_R_atom_19 : decode c_R_atom 19 = .ok (.if_icmp .lt 7, 3) := by decide +kernel
theorem d_R_atom_22 : decode c_R_atom 22 = .ok (.iconst (-1), 1) := by decide +kernel
theorem d_R_atom_23 : decode c_R_atom 23 = .ok (.goto 13, 3) := by decide +kernel
theorem d_R_atom_26 : decode c_R_atom 26 = .ok (.aload_n 0, 1) := by decide +kernel
theorem d_R_atom_27 : decode c_R_atom 27 = .ok (.getfield 23, 3) := by decide +kernel
theorem d_R_atom_30 : decode c_R_atom 30 = .ok (.iconst 4, 1) := by decide +kernel
theorem d_R_atom_31 : decode c_R_atom 31 = .ok (.iload_n 1, 1) := by decide +kernel
theorem d_R_atom_32 : decode c_R_atom 32 = .ok (.imul, 1) := by decide +kernel
theorem d_R_atom_33 : decode c_R_atom 33 = .ok (.iload_n 2, 1) := by decide +kernel
theorem d_R_atom_34 : decode c_R_atom 34 = .ok (.iadd, 1) := by decide +kernel
theorem d_R_atom_35 : decode c_R_atom 35 = .ok (.iaload, 1) := by decide +kernel
theorem d_R_atom_36 : decode c_R_atom 36 = .ok (.ireturn, 1) := by decide +kernel
theorem d_R_start_0 : decode c_R_start 0 = .ok (.aload_n 0, 1) := by decide +kernel
theorem d_R_start_1 : decode c_R_start 1 = .ok (.iconst 1, 1) := by decide +kernel
theorem d_R_start_2 : decode c_R_start 2 = .ok (.putfield 57, 3) := by decide +kernel
theorem d_R_start_5 : decode c_R_start 5 = .ok (.aload_n 0, 1) := by decide +kernel
theorem d_R_start_6 : decode c_R_start 6 = .ok (.iconst 0, 1) := by decide +kernel
theorem d_R_start_7 : decode c_R_start 7 = .ok (.putfield 78, 3) := by decide +kernel
theorem d_R_start_10 : decode c_R_start 10 = .ok (.aload_n 0, 1) := by decide +kernel
theorem d_R_start_11 : decode c_R_start 11 = .ok (.iconst 0, 1) := by decide +kernel
theorem d_R_start_12 : decode c_R_start 12 = .ok (.putfield 81, 3) := by decide +kernel
theorem d_R_start_15 : decode c_R_start 15 = .ok (.aload_n 0, 1) := by decide +kernel
theorem d_R_start_16 : decode c_R_start 16 = .ok (.iconst 0, 1) := by decide +kernel
theorem d_R_start_17 : decode c_R_start 17 = .ok (.putfield 84, 3) := by decide +kernel
theorem d_R_start_20 : decode c_R_start 20 = .ok (.aload_n 0, 1) := by decide +kernel
theorem d_R_start_21 : decode c_R_start 21 = .ok (.getfield 29, 3) := by decide +kernel
theorem d_R_start_24 : decode c_R_start 24 = .ok (.iconst 0, 1) := by decide +kernel
theorem d_R_start_25 : decode c_R_start 25 = .ok (.iconst 0, 1) := by decide +kernel
theorem d_R_start_26 : decode c_R_start 26 = .ok (.iastore, 1) := by decide +kernel
theorem d_R_start_27 : decode c_R_start 27 = .ok (.aload_n 0, 1) := by decide +kernel
theorem d_R_start_28 : decode c_R_start 28 = .ok (.getfield 32, 3) := by decide +kernel
theorem d_R_start_31 : decode c_R_start 31 = .ok (.iconst 0, 1) := by decide +kernel
theorem d_R_start_32 : decode c_R_start 32 = .ok (.iconst (-1), 1) := by decide +kernel
theorem d_R_start_33 : decode c_R_start 33 = .ok (.iastore, 1) := by decide +kernel
theorem d_R_start_34 : decode c_R_start 34 = .ok (.iconst 0, 1) := by decide +kernel
theorem d_R_start_35 : decode c_R_start 35 = .ok (.istore_n 1, 1) := by decide +kernel
theorem d_R_start_36 : decode c_R_start 36 = .ok (.iload_n 1, 1) := by decide +kernel
theorem d_R_start_37 : decode c_R_start 37 = .ok (.bipush 8, 2) := by decide +kernel
theorem d_R_start_39 : decode c_R_start 39 = .ok (.if_icmp .ge 16, 3) := by decide +kernel
theorem d_R_start_42 : decode c_R_start 42 = .ok (.aload_n 0, 1) := by decide +kernel
theorem d_R_start_43 : decode c_R_start 43 = .ok (.getfield 26, 3) := by decide +kernel
theorem d_R_start_46 : decode c_R_start 46 = .ok (.iload_n 1, 1) := by decide +kernel
theorem d_R_start_47 : decode c_R_start 47 = .ok (.iconst 0, 1) := by decide +kernel
theorem d_R_start_48 : decode c_R_start 48 = .ok (.iastore, 1) := by decide +kernel
theorem d_R_start_49 : decode c_R_start 49 = .ok (.iinc 1 1, 3) := by decide +kernel
theorem d_R_start_52 : decode c_R_start 52 = .ok (.goto (-16), 3) := by decide +kernel
theorem d_R_start_55 : decode c_R_start 55 = .ok (.return_, 1) := by decide +kernel
theorem d_R_step_0 : decode c_R_step 0 = .ok (.iload_n 1, 1) := by decide +kernel
theorem d_R_step_1 : decode c_R_step 1 = .ok (.ifCond .lt 16, 3) := by decide +kernel
theorem d_R_step_4 : decode c_R_step 4 = .ok (.iload_n 1, 1) := by decide +kernel
theorem d_R_step_5 : decode c_R_step 5 = .ok (.bipush 100, 2) := by decide +kernel
theorem d_R_step_7 : decode c_R_step 7 = .ok (.if_icmp .gt 10, 3) := by decide +kernel
theorem d_R_step_10 : decode c_R_step 10 = .ok (.aload_n 0, 1) := by decide +kernel
theorem d_R_step_11 : decode c_R_step 11 = .ok (.getfield 57, 3) := by decide +kernel
theorem d_R_step_14 : decode c_R_step 14 = .ok (.ifCond .ne 5, 3) := by decide +kernel
theorem d_R_step_17 : decode c_R_step 17 = .ok (.iconst (-1), 1) := by decide +kernel
theorem d_R_step_18 : decode c_R_step 18 = .ok (.ireturn, 1) := by decide +kernel
theorem d_R_step_19 : decode c_R_step 19 = .ok (.iconst 0, 1) := by decide +kernel
theorem d_R_step_20 : decode c_R_step 20 = .ok (.istore_n 2, 1) := by decide +kernel
theorem d_R_step_21 : decode c_R_step 21 = .ok (.iconst 0, 1) := by decide +kernel
theorem d_R_step_22 : decode c_R_step 22 = .ok (.istore_n 3, 1) := by decide +kernel
theorem d_R_step_23 : decode c_R_step 23 = .ok (.iload_n 3, 1) := by decide +kernel
theorem d_R_step_24 : decode c_R_step 24 = .ok (.iload_n 1, 1) := by decide +kernel
theorem d_R_step_25 : decode c_R_step 25 = .ok (.if_icmp .ge 36, 3) := by decide +kernel
theorem d_R_step_28 : decode c_R_step 28 = .ok (.aload_n 0, 1) := by decide +kernel
theorem d_R_step_29 : decode c_R_step 29 = .ok (.getfield 57, 3) := by decide +kernel
theorem d_R_step_32 : decode c_R_step 32 = .ok (.iconst 1, 1) := by decide +kernel
theorem d_R_step_33 : decode c_R_step 33 = .ok (.if_icmp .ne 28, 3) := by decide +kernel
theorem d_R_step_36 : decode c_R_step 36 = .ok (.aload_n 0, 1) := by decide +kernel
theorem d_R_step_37 : decode c_R_step 37 = .ok (.invokevirtual 105, 3) := by decide +kernel
theorem d_R_step_40 : decode c_R_step 40 = .ok (.istore 4, 2) := by decide +kernel
theorem d_R_step_42 : decode c_R_step 42 = .ok (.iload 4, 2) := by decide +kernel
theorem d_R_step_44 : decode c_R_step 44 = .ok (.ifCond .eq 9, 3) := by decide +kernel
theorem d_R_step_47 : decode c_R_step 47 = .ok (.iload_n 2, 1) := by decide +kernel
theorem d_R_step_48 : decode c_R_step 48 = .ok (.iconst 1, 1) := by decide +kernel
theorem d_R_step_49 : decode c_R_step 49 = .ok (.iadd, 1) := by decide +kernel
theorem d_R_step_50 : decode c_R_step 50 = .ok (.goto 4, 3) := by decide +kernel
theorem d_R_step_53 : decode c_R_step 53 = .ok (.iload_n 2, 1) := by decide +kernel
theorem d_R_step_54 : decode c_R_step 54 = .ok (.istore_n 2, 1) := by decide +kernel
theorem d_R_step_55 : decode c_R_step 55 = .ok (.iinc 3 1, 3) := by decide +kernel
theorem d_R_step_58 : decode c_R_step 58 = .ok (.goto (-35), 3) := by decide +kernel
theorem d_R_step_61 : decode c_R_step 61 = .ok (.iload_n 2, 1) := by decide +kernel
theorem d_R_step_62 : decode c_R_step 62 = .ok (.ireturn, 1) := by decide +kernel
theorem d_R_move_0 : decode c_R_move 0 = .ok (.aload_n 0, 1) := by decide +kernel
theorem d_R_move_1 : decode c_R_move 1 = .ok (.getfield 20, 3) := by decide +kernel
theorem d_R_move_4 : decode c_R_move 4 = .ok (.aload_n 0, 1) := by decide +kernel
theorem d_R_move_5 : decode c_R_move 5 = .ok (.getfield 78, 3) := by decide +kernel
theorem d_R_move_8 : decode c_R_move 8 = .ok (.iaload, 1) := by decide +kernel
theorem d_R_move_9 : decode c_R_move 9 = .ok (.iconst 1, 1) := by decide +kernel
theorem d_R_move_10 : decode c_R_move 10 = .ok (.isub, 1) := by decide +kernel
theorem d_R_move_11 : decode c_R_move 11 = .ok (.istore_n 1, 1) := by decide +kernel
theorem d_R_move_12 : decode c_R_move 12 = .ok (.iload_n 1, 1) := by decide +kernel
theorem d_R_move_13 : decode c_R_move 13 = .ok (.ifCond .ge 7, 3) := by decide +kernel
theorem d_R_move_16 : decode c_R_move 16 = .ok (.iconst 0, 1) := by decide +kernel
theorem d_R_move_17 : decode c_R_move 17 = .ok (.goto 18, 3) := by decide +kernel
theorem d_R_move_20 : decode c_R_move 20 = .ok (.aload_n 0, 1) := by decide +kernel
theorem d_R_move_21 : decode c_R_move 21 = .ok (.aload_n 0, 1) := by decide +kernel
theorem d_R_move_22 : decode c_R_move 22 = .ok (.getfield 23, 3) := by decide +kernel
theorem d_R_move_25 : decode c_R_move 25 = .ok (.iconst 4, 1) := by decide +kernel
theorem d_R_move_26 : decode c_R_move 26 = .ok (.aload_n 0, 1) := by decide +kernel
theorem d_R_move_27 : decode c_R_move 27 = .ok (.getfield 78, 3) := by decide +kernel
theorem d_R_move_30 : decode c_R_move 30 = .ok (.imul, 1) := by decide +kernel
theorem d_R_move_31 : decode c_R_move 31 = .ok (.iaload, 1) := by decide +kernel
theorem d_R_move_32 : decode c_R_move 32 = .ok (.invokevirtual 91, 3) := by decide +kernel
theorem d_R_move_35 : decode c_R_move 35 = .ok (.istore_n 2, 1) := by decide +kernel
theorem d_R_move_36 : decode c_R_move 36 = .ok (.iconst 0, 1) := by decide +kernel
theorem d_R_move_37 : decode c_R_move 37 = .ok (.istore_n 3, 1) := by decide +kernel
theorem d_R_move_38 : decode c_R_move 38 = .ok (.iload_n 3, 1) := by decide +kernel
theorem d_R_move_39 : decode c_R_move 39 = .ok (.iload_n 1, 1) := by decide +kernel
theorem d_R_move_40 : decode c_R_move 40 = .ok (.if_icmp .ge 34, 3) := by decide +kernel
theorem d_R_move_43 : decode c_R_move 43 = .ok (.aload_n 0, 1) := by decide +kernel
theorem d_R_move_44 : decode c_R_move 44 = .ok (.getfield 38, 3) := by decide +kernel
theorem d_R_move_47 : decode c_R_move 47 = .ok (.iload_n 3, 1) := by decide +kernel
theorem d_R_move_48 : decode c_R_move 48 = .ok (.aload_n 0, 1) := by decide +kernel
theorem d_R_move_49 : decode c_R_move 49 = .ok (.aload_n 0, 1) := by decide +kernel
theorem d_R_move_50 : decode c_R_move 50 = .ok (.getfield 23, 3) := by decide +kernel
theorem d_R_move_53 : decode c_R_move 53 = .ok (.iconst 4, 1) := by decide +kernel
theorem d_R_move_54 : decode c_R_move 54 = .ok (.aload_n 0, 1) := by decide +kernel
theorem d_R_move_55 : decode c_R_move 55 = .ok (.getfield 78, 3) := by decide +kernel
theorem d_R_move_58 : decode c_R_move 58 = .ok (.imul, 1) := by decide +kernel
theorem d_R_move_59 : decode c_R_move 59 = .ok (.iconst 1, 1) := by decide +kernel
theorem d_R_move_60 : decode c_R_move 60 = .ok (.iadd, 1) := by decide +kernel
theorem d_R_move_61 : decode c_R_move 61 = .ok (.iload_n 3, 1) := by decide +kernel
theorem d_R_move_62 : decode c_R_move 62 = .ok (.iadd, 1) := by decide +kernel
theorem d_R_move_63 : decode c_R_move 63 = .ok (.iaload, 1) := by decide +kernel
theorem d_R_move_64 : decode c_R_move 64 = .ok (.invokevirtual 91, 3) := by decide +kernel
theorem d_R_move_67 : decode c_R_move 67 = .ok (.iastore, 1) := by decide +kernel
theorem d_R_move_68 : decode c_R_move 68 = .ok (.iinc 3 1, 3) := by decide +kernel
theorem d_R_move_71 : decode c_R_move 71 = .ok (.goto (-33), 3) := by decide +kernel
theorem d_R_move_74 : decode c_R_move 74 = .ok (.iload_n 2, 1) := by decide +kernel
theorem d_R_move_75 : decode c_R_move 75 = .ok (.sipush 301, 3) := by decide +kernel
theorem d_R_move_78 : decode c_R_move 78 = .ok (.if_icmp .ne 66, 3) := by decide +kernel
theorem d_R_move_81 : decode c_R_move 81 = .ok (.iload_n 1, 1) := by decide +kernel
theorem d_R_move_82 : decode c_R_move 82 = .ok (.iconst 3, 1) := by decide +kernel
theorem d_R_move_83 : decode c_R_move 83 = .ok (.if_icmp .ne 61, 3) := by decide +kernel
theorem d_R_move_86 : decode c_R_move 86 = .ok (.aload_n 0, 1) := by decide +kernel
theorem d_R_move_87 : decode c_R_move 87 = .ok (.getfield 38, 3) := by decide +kernel
theorem d_R_move_90 : decode c_R_move 90 = .ok (.iconst 0, 1) := by decide +kernel
theorem d_R_move_91 : decode c_R_move 91 = .ok (.iaload, 1) := by decide +kernel
theorem d_R_move_92 : decode c_R_move 92 = .ok (.invokestatic 95, 3) := by decide +kernel
theorem d_R_move_95 : decode c_R_move 95 = .ok (.ifCond .eq 49, 3) := by decide +kernel
theorem d_R_move_98 : decode c_R_move 98 = .ok (.aload_n 0, 1) := by decide +kernel
theorem d_R_move_99 : decode c_R_move 99 = .ok (.getfield 38, 3) := by decide +kernel
theorem d_R_move_102 : decode c_R_move 102 = .ok (.iconst 1, 1) := by decide +kernel
theorem d_R_move_103 : decode c_R_move 103 = .ok (.iaload, 1) := by decide +kernel
theorem d_R_move_104 : decode c_R_move 104 = .ok (.invokestatic 95, 3) := by decide +kernel
theorem d_R_move_107 : decode c_R_move 107 = .ok (.ifCond .eq 37, 3) := by decide +kernel
theorem d_R_move_110 : decode c_R_move 110 = .ok (.aload_n 0, 1) := by decide +kernel
theorem d_R_move_111 : decode c_R_move 111 = .ok (.getfield 38, 3) := by decide +kernel
theorem d_R_move_114 : decode c_R_move 114 = .ok (.iconst 2, 1) := by decide +kernel
theorem d_R_move_115 : decode c_R_move 115 = .ok (.iaload, 1) := by decide +kernel
theorem d_R_move_116 : decode c_R_move 116 = .ok (.istore_n 2, 1) := by decide +kernel
theorem d_R_move_117 : decode c_R_move 117 = .ok (.aload_n 0, 1) := by decide +kernel
theorem d_R_move_118 : decode c_R_move 118 = .ok (.getfield 38, 3) := by decide +kernel
theorem d_R_move_121 : decode c_R_move 121 = .ok (.iconst 0, 1) := by decide +kernel
theorem d_R_move_122 : decode c_R_move 122 = .ok (.aload_n 0, 1) := by decide +kernel
theorem d_R_move_123 : decode c_R_move 123 = .ok (.getfield 38, 3) := by decide +kernel
theorem d_R_move_126 : decode c_R_move 126 = .ok (.iconst 0, 1) := by decide +kernel
theorem d_R_move_127 : decode c_R_move 127 = .ok (.iaload, 1) := by decide +kernel
theorem d_R_move_128 : decode c_R_move 128 = .ok (.aload_n 0, 1) := by decide +kernel
theorem d_R_move_129 : decode c_R_move 129 = .ok (.getfield 38, 3) := by decide +kernel
theorem d_R_move_132 : decode c_R_move 132 = .ok (.iconst 1, 1) := by decide +kernel
theorem d_R_move_133 : decode c_R_move 133 = .ok (.iaload, 1) := by decide +kernel
theorem d_R_move_134 : decode c_R_move 134 = .ok (.iadd, 1) := by decide +kernel
theorem d_R_move_135 : decode c_R_move 135 = .ok (.bipush 10, 2) := by decide +kernel
theorem d_R_move_137 : decode c_R_move 137 = .ok (.irem, 1) := by decide +kernel
theorem d_R_move_138 : decode c_R_move 138 = .ok (.iastore, 1) := by decide +kernel
theorem d_R_move_139 : decode c_R_move 139 = .ok (.iconst 1, 1) := by decide +kernel
theorem d_R_move_140 : decode c_R_move 140 = .ok (.istore_n 1, 1) := by decide +kernel
theorem d_R_move_141 : decode c_R_move 141 = .ok (.goto 54, 3) := by decide +kernel
theorem d_R_move_144 : decode c_R_move 144 = .ok (.iload_n 2, 1) := by decide +kernel
theorem d_R_move_145 : decode c_R_move 145 = .ok (.sipush 302, 3) := by decide +kernel
theorem d_R_move_148 : decode c_R_move 148 = .ok (.if_icmp .ne 47, 3) := by decide +kernel
theorem d_R_move_151 : decode c_R_move 151 = .ok (.iload_n 1, 1) := by decide +kernel
theorem d_R_move_152 : decode c_R_move 152 = .ok (.iconst 3, 1) := by decide +kernel
theorem d_R_move_153 : decode c_R_move 153 = .ok (.if_icmp .ne 42, 3) := by decide +kernel
theorem d_R_move_156 : decode c_R_move 156 = .ok (.aload_n 0, 1) := by decide +kernel
theorem d_R_move_157 : decode c_R_move 157 = .ok (.getfield 38, 3) := by decide +kernel
theorem d_R_move_160 : decode c_R_move 160 = .ok (.iconst 0, 1) := by decide +kernel
theorem d_R_move_161 : decode c_R_move 161 = .ok (.iaload, 1) := by decide +kernel
theorem d_R_move_162 : decode c_R_move 162 = .ok (.invokestatic 95, 3) := by decide +kernel
theorem d_R_move_165 : decode c_R_move 165 = .ok (.ifCond .eq 30, 3) := by decide +kernel
theorem d_R_move_168 : decode c_R_move 168 = .ok (.aload_n 0, 1) := by decide +kernel
theorem d_R_move_169 : decode c_R_move 169 = .ok (.getfield 38, 3) := by decide +kernel
theorem d_R_move_172 : decode c_R_move 172 = .ok (.iconst 0, 1) := by decide +kernel
theorem d_R_move_173 : decode c_R_move 173 = .ok (.iaload, 1) := by decide +kernel
theorem d_R_move_174 : decode c_R_move 174 = .ok (.ifCond .ne 12, 3) := by decide +kernel
theorem d_R_move_177 : decode c_R_move 177 = .ok (.aload_n 0, 1) := by decide +kernel
theorem d_R_move_178 : decode c_R_move 178 = .ok (.getfield 38, 3) := by decide +kernel
theorem d_R_move_181 : decode c_R_move 181 = .ok (.iconst 1, 1) := by decide +kernel
theorem d_R_move_182 : decode c_R_move 182 = .ok (.iaload, 1) := by decide +kernel
theorem d_R_move_183 : decode c_R_move 183 = .ok (.goto 9, 3) := by decide +kernel
theorem d_R_move_186 : decode c_R_move 186 = .ok (.aload_n 0, 1) := by decide +kernel
theorem d_R_move_187 : decode c_R_move 187 = .ok (.getfield 38, 3) := by decide +kernel
theorem d_R_move_190 : decode c_R_move 190 = .ok (.iconst 2, 1) := by decide +kernel
theorem d_R_move_191 : decode c_R_move 191 = .ok (.iaload, 1) := by decide +kernel
theorem d_R_move_192 : decode c_R_move 192 = .ok (.istore_n 2, 1) := by decide +kernel
theorem d_R_move_193 : decode c_R_move 193 = .ok (.iconst 0, 1) := by decide +kernel
theorem d_R_move_194 : decode c_R_move 194 = .ok (.istore_n 1, 1) := by decide +kernel
theorem d_R_move_195 : decode c_R_move 195 = .ok (.iload_n 2, 1) := by decide +kernel
theorem d_R_move_196 : decode c_R_move 196 = .ok (.sipush 1000, 3) := by decide +kernel
theorem d_R_move_199 : decode c_R_move 199 = .ok (.if_icmp .lt 14, 3) := by decide +kernel
theorem d_R_move_202 : decode c_R_move 202 = .ok (.iload_n 2, 1) := by decide +kernel
theorem d_R_move_203 : decode c_R_move 203 = .ok (.sipush 1000, 3) := by decide +kernel
theorem d_R_move_206 : decode c_R_move 206 = .ok (.isub, 1) := by decide +kernel
theorem d_R_move_207 : decode c_R_move 207 = .ok (.bipush 100, 2) := by decide +kernel
theorem d_R_move_209 : decode c_R_move 209 = .ok (.idiv, 1) := by decide +kernel
theorem d_R_move_210 : decode c_R_move 210 = .ok (.goto 4, 3) := by decide +kernel
theorem d_R_move_213 : decode c_R_move 213 = .ok (.iconst 0, 1) := by decide +kernel
theorem d_R_move_214 : decode c_R_move 214 = .ok (.istore_n 3, 1) := by decide +kernel
theorem d_R_move_215 : decode c_R_move 215 = .ok (.iload_n 2, 1) := by decide +kernel
theorem d_R_move_216 : decode c_R_move 216 = .ok (.sipush 300, 3) := by decide +kernel
theorem d_R_move_219 : decode c_R_move 219 = .ok (.if_icmp .ne 26, 3) := by decide +kernel
theorem d_R_move_222 : decode c_R_move 222 = .ok (.iload_n 1, 1) := by decide +kernel
theorem d_R_move_223 : decode c_R_move 223 = .ok (.iconst 1, 1) := by decide +kernel
theorem d_R_move_224 : decode c_R_move 224 = .ok (.if_icmp .ne 21, 3) := by decide +kernel
theorem d_R_move_227 : decode c_R_move 227 = .ok (.aload_n 0, 1) := by decide +kernel
theorem d_R_move_228 : decode c_R_move 228 = .ok (.aload_n 0, 1) := by decide +kernel
theorem d_R_move_229 : decode c_R_move 229 = .ok (.getfield 38, 3) := by decide +kernel
theorem d_R_move_232 : decode c_R_move 232 = .ok (.iconst 0, 1) := by decide +kernel
theorem d_R_move_233 : decode c_R_move 233 = .ok (.iaload, 1) := by decide +kernel
theorem d_R_move_234 : decode c_R_move 234 = .ok (.putfield 98, 3) := by decide +kernel
theorem d_R_move_237 : decode c_R_move 237 = .ok (.aload_n 0, 1) := by decide +kernel
theorem d_R_move_238 : decode c_R_move 238 = .ok (.iconst 2, 1) := by decide +kernel
theorem d_R_move_239 : decode c_R_move 239 = .ok (.putfield 57, 3) := by decide +kernel
theorem d_R_move_242 : decode c_R_move 242 = .ok (.goto 58, 3) := by decide +kernel
theorem d_R_move_245 : decode c_R_move 245 = .ok (.iload_n 2, 1) := by decide +kernel
theorem d_R_move_246 : decode c_R_move 246 = .ok (.sipush 1000, 3) := by decide +kernel
theorem d_R_move_249 : decode c_R_move 249 = .ok (.if_icmp .lt 46, 3) := by decide +kernel
theorem d_R_move_252 : decode c_R_move 252 = .ok (.aload_n 0, 1) := by decide +kernel
theorem d_R_move_253 : decode c_R_move 253 = .ok (.getfield 17, 3) := by decide +kernel
theorem d_R_move_256 : decode c_R_move 256 = .ok (.iload_n 3, 1) := by decide +kernel
theorem d_R_move_257 : decode c_R_move 257 = .ok (.iaload, 1) := by decide +kernel
theorem d_R_move_258 : decode c_R_move 258 = .ok (.iload_n 1, 1) := by decide +kernel
theorem d_R_move_259 : decode c_R_move 259 = .ok (.if_icmp .ne 36, 3) := by decide +kernel
theorem d_R_move_262 : decode c_R_move 262 = .ok (.aload_n 0, 1) := by decide +kernel
theorem d_R_move_263 : decode c_R_move 263 = .ok (.getfield 84, 3) := by decide +kernel
theorem d_R_move_266 : decode c_R_move 266 = .ok (.bipush 64, 2) := by decide +kernel
theorem d_R_move_268 : decode c_R_move 268 = .ok (.if_icmp .ne 10, 3) := by decide +kernel
theorem d_R_move_271 : decode c_R_move 271 = .ok (.aload_n 0, 1) := by decide +kernel
theorem d_R_move_272 : decode c_R_move 272 = .ok (.iconst 4, 1) := by decide +kernel
theorem d_R_move_273 : decode c_R_move 273 = .ok (.putfield 57, 3) := by decide +kernel
theorem d_R_move_276 : decode c_R_move 276 = .ok (.iconst 0, 1) := by decide +kernel
theorem d_R_move_277 : decode c_R_move 277 = .ok (.ireturn, 1) := by decide +kernel
theorem d_R_move_278 : decode c_R_move 278 = .ok (.aload_n 0, 1) := by decide +kernel
theorem d_R_move_279 : decode c_R_move 279 = .ok (.iload_n 3, 1) := by decide +kernel
theorem d_R_move_280 : decode c_R_move 280 = .ok (.iload_n 2, 1) := by decide +kernel
theorem d_R_move_281 : decode c_R_move 281 = .ok (.sipush 1000, 3) := by decide +kernel
theorem d_R_move_284 : decode c_R_move 284 = .ok (.isub, 1) := by decide +kernel
theorem d_R_move_285 : decode c_R_move 285 = .ok (.bipush 100, 2) := by decide +kernel
theorem d_R_move_287 : decode c_R_move 287 = .ok (.irem, 1) := by decide +kernel
theorem d_R_move_288 : decode c_R_move 288 = .ok (.iload_n 1, 1) := by decide +kernel
theorem d_R_move_289 : decode c_R_move 289 = .ok (.invokevirtual 101, 3) := by decide +kernel
theorem d_R_move_292 : decode c_R_move 292 = .ok (.goto 8, 3) := by decide +kernel
theorem d_R_move_295 : decode c_R_move 295 = .ok (.aload_n 0, 1) := by decide +kernel
theorem d_R_move_296 : decode c_R_move 296 = .ok (.iconst 3, 1) := by decide +kernel
theorem d_R_move_297 : decode c_R_move 297 = .ok (.putfield 57, 3) := by decide +kernel
theorem d_R_move_300 : decode c_R_move 300 = .ok (.iconst 1, 1) := by decide +kernel
theorem d_R_move_301 : decode c_R_move 301 = .ok (.ireturn, 1) := by decide +kernel
theorem d_R_valueOf_0 : decode c_R_valueOf 0 = .ok (.iload_n 1, 1) := by decide +kernel
theorem d_R_valueOf_1 : decode c_R_valueOf 1 = .ok (.bipush 100, 2) := by decide +kernel
theorem d_R_valueOf_3 : decode c_R_valueOf 3 = .ok (.if_icmp .lt 10, 3) := by decide +kernel
theorem d_R_valueOf_6 : decode c_R_valueOf 6 = .ok (.iload_n 1, 1) := by decide +kernel
theorem d_R_valueOf_7 : decode c_R_valueOf 7 = .ok (.sipush 300, 3) := by decide +kernel
theorem d_R_valueOf_10 : decode c_R_valueOf 10 = .ok (.if_icmp .lt 5, 3) := by decide +kernel
theorem d_R_valueOf_13 : decode c_R_valueOf 13 = .ok (.iload_n 1, 1) := by decide +kernel
theorem d_R_valueOf_14 : decode c_R_valueOf 14 = .ok (.ireturn, 1) := by decide +kernel
theorem d_R_valueOf_15 : decode c_R_valueOf 15 = .ok (.iload_n 1, 1) := by decide +kernel
theorem d_R_valueOf_16 : decode c_R_valueOf 16 = .ok (.sipush 200, 3) := by decide +kernel
theorem d_R_valueOf_19 : decode c_R_valueOf 19 = .ok (.if_icmp .lt 21, 3) := by decide +kernel
theorem d_R_valueOf_22 : decode c_R_valueOf 22 = .ok (.sipush 1000, 3) := by decide +kernel
theorem d_R_valueOf_25 : decode c_R_valueOf 25 = .ok (.bipush 100, 2) := by decide +kernel
theorem d_R_valueOf_27 : decode c_R_valueOf 27 = .ok (.iload_n 1, 1) := by decide +kernel
theorem d_R_valueOf_28 : decode c_R_valueOf 28 = .ok (.sipush 200, 3) := by decide +kernel
theorem d_R_valueOf_31 : decode c_R_valueOf 31 = .ok (.isub, 1) := by decide +kernel
theorem d_R_valueOf_32 : decode c_R_valueOf 32 = .ok (.imul, 1) := by decide +kernel
theorem d_R_valueOf_33 : decode c_R_valueOf 33 = .ok (.iadd, 1) := by decide +kernel
theorem d_R_valueOf_34 : decode c_R_valueOf 34 = .ok (.aload_n 0, 1) := by decide +kernel
theorem d_R_valueOf_35 : decode c_R_valueOf 35 = .ok (.getfield 81, 3) := by decide +kernel
theorem d_R_valueOf_38 : decode c_R_valueOf 38 = .ok (.iadd, 1) := by decide +kernel
theorem d_R_valueOf_39 : decode c_R_valueOf 39 = .ok (.ireturn, 1) := by decide +kernel
theorem d_R_valueOf_40 : decode c_R_valueOf 40 = .ok (.aload_n 0, 1) := by decide +kernel
theorem d_R_valueOf_41 : decode c_R_valueOf 41 = .ok (.iload_n 1, 1) := by decide +kernel
theorem d_R_valueOf_42 : decode c_R_valueOf 42 = .ok (.bipush 100, 2) := by decide +kernel
theorem d_R_valueOf_44 : decode c_R_valueOf 44 = .ok (.isub, 1) := by decide +kernel
theorem d_R_valueOf_45 : decode c_R_valueOf 45 = .ok (.bipush 10, 2) := by decide +kernel
theorem d_R_valueOf_47 : decode c_R_valueOf 47 = .ok (.idiv, 1) := by decide +kernel
theorem d_R_valueOf_48 : decode c_R_valueOf 48 = .ok (.aload_n 0, 1) := by decide +kernel
theorem d_R_valueOf_49 : decode c_R_valueOf 49 = .ok (.getfield 81, 3) := by decide +kernel
theorem d_R_valueOf_52 : decode c_R_valueOf 52 = .ok (.invokevirtual 87, 3) := by decide +kernel
theorem d_R_valueOf_55 : decode c_R_valueOf 55 = .ok (.istore_n 2, 1) := by decide +kernel
theorem d_R_valueOf_56 : decode c_R_valueOf 56 = .ok (.iload_n 2, 1) := by decide +kernel
theorem d_R_valueOf_57 : decode c_R_valueOf 57 = .ok (.ifCond .ge 7, 3) := by decide +kernel
theorem d_R_valueOf_60 : decode c_R_valueOf 60 = .ok (.iconst 0, 1) := by decide +kernel
theorem d_R_valueOf_61 : decode c_R_valueOf 61 = .ok (.goto 16, 3) := by decide +kernel
theorem d_R_valueOf_64 : decode c_R_valueOf 64 = .ok (.aload_n 0, 1) := by decide +kernel
theorem d_R_valueOf_65 : decode c_R_valueOf 65 = .ok (.getfield 35, 3) := by decide +kernel
theorem d_R_valueOf_68 : decode c_R_valueOf 68 = .ok (.iconst 3, 1) := by decide +kernel
theorem d_R_valueOf_69 : decode c_R_valueOf 69 = .ok (.iload_n 2, 1) := by decide +kernel
theorem d_R_valueOf_70 : decode c_R_valueOf 70 = .ok (.imul, 1) := by decide +kernel
theorem d_R_valueOf_71 : decode c_R_valueOf 71 = .ok (.iload_n 1, 1) := by decide +kernel
theorem d_R_valueOf_72 : decode c_R_valueOf 72 = .ok (.bipush 10, 2) := by decide +kernel
theorem d_R_valueOf_74 : decode c_R_valueOf 74 = .ok (.irem, 1) := by decide +kernel
theorem d_R_valueOf_75 : decode c_R_valueOf 75 = .ok (.iadd, 1) := by decide +kernel
theorem d_R_valueOf_76 : decode c_R_valueOf 76 = .ok (.iaload, 1) := by decide +kernel
theorem d_R_valueOf_77 : decode c_R_valueOf 77 = .ok (.ireturn, 1) := by decide +kernel
theorem d_R_envOf_0 : decode c_R_envOf 0 = .ok (.iload_n 2, 1) := by decide +kernel
theorem d_R_envOf_1 : decode c_R_envOf 1 = .ok (.istore_n 3, 1) := by decide +kernel
theorem d_R_envOf_2 : decode c_R_envOf 2 = .ok (.iload_n 3, 1) := by decide +kernel
theorem d_R_envOf_3 : decode c_R_envOf 3 = .ok (.ifCond .lt 23, 3) := by decide +kernel
theorem d_R_envOf_6 : decode c_R_envOf 6 = .ok (.aload_n 0, 1) := by decide +kernel
theorem d_R_envOf_7 : decode c_R_envOf 7 = .ok (.getfield 29, 3) := by decide +kernel
theorem d_R_envOf_10 : decode c_R_envOf 10 = .ok (.iload_n 3, 1) := by decide +kernel
theorem d_R_envOf_11 : decode c_R_envOf 11 = .ok (.iaload, 1) := by decide +kernel
theorem d_R_envOf_12 : decode c_R_envOf 12 = .ok (.iload_n 1, 1) := by decide +kernel
theorem d_R_envOf_13 : decode c_R_envOf 13 = .ok (.if_icmp .eq 13, 3) := by decide +kernel
theorem d_R_envOf_16 : decode c_R_envOf 16 = .ok (.aload_n 0, 1) := by decide +kernel
theorem d_R_envOf_17 : decode c_R_envOf 17 = .ok (.getfield 32, 3) := by decide +kernel
theorem d_R_envOf_20 : decode c_R_envOf 20 = .ok (.iload_n 3, 1) := by decide +kernel
theorem d_R_envOf_21 : decode c_R_envOf 21 = .ok (.iaload, 1) := by decide +kernel
theorem d_R_envOf_22 : decode c_R_envOf 22 = .ok (.istore_n 3, 1) := by decide +kernel
theorem d_R_envOf_23 : decode c_R_envOf 23 = .ok (.goto (-21), 3) := by decide +kernel
theorem d_R_envOf_26 : decode c_R_envOf 26 = .ok (.iload_n 3, 1) := by decide +kernel
theorem d_R_envOf_27 : decode c_R_envOf 27 = .ok (.ireturn, 1) := by decide +kernel
theorem d_R_isNumber_0 : decode c_R_isNumber 0 = .ok (.iload_n 0, 1) := by decide +kernel
theorem d_R_isNumber_1 : decode c_R_isNumber 1 = .ok (.bipush 10, 2) := by decide +kernel
theorem d_R_isNumber_3 : decode c_R_isNumber 3 = .ok (.if_icmp .ge 7, 3) := by decide +kernel
theorem d_R_isNumber_6 : decode c_R_isNumber 6 = .ok (.iconst 1, 1) := by decide +kernel
theorem d_R_isNumber_7 : decode c_R_isNumber 7 = .ok (.goto 4, 3) := by decide +kernel
theorem d_R_isNumber_10 : decode c_R_isNumber 10 = .ok (.iconst 0, 1) := by decide +kernel
theorem d_R_isNumber_11 : decode c_R_isNumber 11 = .ok (.ireturn, 1) := by decide +kernel
theorem d_R_enter_0 : decode c_R_enter 0 = .ok (.aload_n 0, 1) := by decide +kernel
theorem d_R_enter_1 : decode c_R_enter 1 = .ok (.getfield 26, 3) := by decide +kernel
theorem d_R_enter_4 : decode c_R_enter 4 = .ok (.aload_n 0, 1) := by decide +kernel
theorem d_R_enter_5 : decode c_R_enter 5 = .ok (.getfield 78, 3) := by decide +kernel
theorem d_R_enter_8 : decode c_R_enter 8 = .ok (.aload_n 0, 1) := by decide +kernel
theorem d_R_enter_9 : decode c_R_enter 9 = .ok (.getfield 26, 3) := by decide +kernel
theorem d_R_enter_12 : decode c_R_enter 12 = .ok (.aload_n 0, 1) := by decide +kernel
theorem d_R_enter_13 : decode c_R_enter 13 = .ok (.getfield 78, 3) := by decide +kernel
theorem d_R_enter_16 : decode c_R_enter 16 = .ok (.iaload, 1) := by decide +kernel
theorem d_R_enter_17 : decode c_R_enter 17 = .ok (.iconst 1, 1) := by decide +kernel
theorem d_R_enter_18 : decode c_R_enter 18 = .ok (.iload_n 1, 1) := by decide +kernel
theorem d_R_enter_19 : decode c_R_enter 19 = .ok (.ishl, 1) := by decide +kernel
theorem d_R_enter_20 : decode c_R_enter 20 = .ok (.ior, 1) := by decide +kernel
theorem d_R_enter_21 : decode c_R_enter 21 = .ok (.iastore, 1) := by decide +kernel
theorem d_R_enter_22 : decode c_R_enter 22 = .ok (.aload_n 0, 1) := by decide +kernel
theorem d_R_enter_23 : decode c_R_enter 23 = .ok (.dup, 1) := by decide +kernel
theorem d_R_enter_24 : decode c_R_enter 24 = .ok (.getfield 84, 3) := by decide +kernel
theorem d_R_enter_27 : decode c_R_enter 27 = .ok (.iconst 1, 1) := by decide +kernel
theorem d_R_enter_28 : decode c_R_enter 28 = .ok (.iadd, 1) := by decide +kernel
theorem d_R_enter_29 : decode c_R_enter 29 = .ok (.putfield 84, 3) := by decide +kernel
theorem d_R_enter_32 : decode c_R_enter 32 = .ok (.aload_n 0, 1) := by decide +kernel
theorem d_R_enter_33 : decode c_R_enter 33 = .ok (.getfield 29, 3) := by decide +kernel
theorem d_R_enter_36 : decode c_R_enter 36 = .ok (.aload_n 0, 1) := by decide +kernel
theorem d_R_enter_37 : decode c_R_enter 37 = .ok (.getfield 84, 3) := by decide +kernel
theorem d_R_enter_40 : decode c_R_enter 40 = .ok (.iload_n 1, 1) := by decide +kernel
theorem d_R_enter_41 : decode c_R_enter 41 = .ok (.iastore, 1) := by decide +kernel
theorem d_R_enter_42 : decode c_R_enter 42 = .ok (.aload_n 0, 1) := by decide +kernel
theorem d_R_enter_43 : decode c_R_enter 43 = .ok (.getfield 32, 3) := by decide +kernel
theorem d_R_enter_46 : decode c_R_enter 46 = .ok (.aload_n 0, 1) := by decide +kernel
theorem d_R_enter_47 : decode c_R_enter 47 = .ok (.getfield 84, 3) := by decide +kernel
theorem d_R_enter_50 : decode c_R_enter 50 = .ok (.iload_n 2, 1) := by decide +kernel
theorem d_R_enter_51 : decode c_R_enter 51 = .ok (.iastore, 1) := by decide +kernel
theorem d_R_enter_52 : decode c_R_enter 52 = .ok (.iconst 0, 1) := by decide +kernel
theorem d_R_enter_53 : decode c_R_enter 53 = .ok (.istore 4, 2) := by decide +kernel
theorem d_R_enter_55 : decode c_R_enter 55 = .ok (.iload 4, 2) := by decide +kernel
theorem d_R_enter_57 : decode c_R_enter 57 = .ok (.iload_n 3, 1) := by decide +kernel
theorem d_R_enter_58 : decode c_R_enter 58 = .ok (.if_icmp .ge 30, 3) := by decide +kernel
theorem d_R_enter_61 : decode c_R_enter 61 = .ok (.aload_n 0, 1) := by decide +kernel
theorem d_R_enter_62 : decode c_R_enter 62 = .ok (.getfield 35, 3) := by decide +kernel
theorem d_R_enter_65 : decode c_R_enter 65 = .ok (.iconst 3, 1) := by decide +kernel
theorem d_R_enter_66 : decode c_R_enter 66 = .ok (.aload_n 0, 1) := by decide +kernel
theorem d_R_enter_67 : decode c_R_enter 67 = .ok (.getfield 84, 3) := by decide +kernel
theorem d_R_enter_70 : decode c_R_enter 70 = .ok (.imul, 1) := by decide +kernel
theorem d_R_enter_71 : decode c_R_enter 71 = .ok (.iload 4, 2) := by decide +kernel
theorem d_R_enter_73 : decode c_R_enter 73 = .ok (.iadd, 1) := by decide +kernel
theorem d_R_enter_74 : decode c_R_enter 74 = .ok (.aload_n 0, 1) := by decide +kernel
theorem d_R_enter_75 : decode c_R_enter 75 = .ok (.getfield 38, 3) := by decide +kernel
theorem d_R_enter_78 : decode c_R_enter 78 = .ok (.iload 4, 2) := by decide +kernel
theorem d_R_enter_80 : decode c_R_enter 80 = .ok (.iaload, 1) := by decide +kernel
theorem d_R_enter_81 : decode c_R_enter 81 = .ok (.iastore, 1) := by decide +kernel
theorem d_R_enter_82 : decode c_R_enter 82 = .ok (.iinc 4 1, 3) := by decide +kernel
theorem d_R_enter_85 : decode c_R_enter 85 = .ok (.goto (-30), 3) := by decide +kernel
theorem d_R_enter_88 : decode c_R_enter 88 = .ok (.aload_n 0, 1) := by decide +kernel
theorem d_R_enter_89 : decode c_R_enter 89 = .ok (.aload_n 0, 1) := by decide +kernel
theorem d_R_enter_90 : decode c_R_enter 90 = .ok (.getfield 84, 3) := by decide +kernel
theorem d_R_enter_93 : decode c_R_enter 93 = .ok (.putfield 81, 3) := by decide +kernel
theorem d_R_enter_96 : decode c_R_enter 96 = .ok (.aload_n 0, 1) := by decide +kernel
theorem d_R_enter_97 : decode c_R_enter 97 = .ok (.iload_n 1, 1) := by decide +kernel
theorem d_R_enter_98 : decode c_R_enter 98 = .ok (.putfield 78, 3) := by decide +kernel
theorem d_R_enter_101 : decode c_R_enter 101 = .ok (.return_, 1) := by decide +kernel
theorem d_R_state_0 : decode c_R_state 0 = .ok (.aload_n 0, 1) := by decide +kernel
theorem d_R_state_1 : decode c_R_state 1 = .ok (.getfield 57, 3) := by decide +kernel
theorem d_R_state_4 : decode c_R_state 4 = .ok (.ireturn, 1) := by decide +kernel
theorem d_R_at_0 : decode c_R_at 0 = .ok (.aload_n 0, 1) := by decide +kernel
theorem d_R_at_1 : decode c_R_at 1 = .ok (.getfield 57, 3) := by decide +kernel
theorem d_R_at_4 : decode c_R_at 4 = .ok (.ifCond .ne 7, 3) := by decide +kernel
theorem d_R_at_7 : decode c_R_at 7 = .ok (.iconst (-1), 1) := by decide +kernel
theorem d_R_at_8 : decode c_R_at 8 = .ok (.goto 7, 3) := by decide +kernel
theorem d_R_at_11 : decode c_R_at 11 = .ok (.aload_n 0, 1) := by decide +kernel
theorem d_R_at_12 : decode c_R_at 12 = .ok (.getfield 78, 3) := by decide +kernel
theorem d_R_at_15 : decode c_R_at 15 = .ok (.ireturn, 1) := by decide +kernel
theorem d_R_value_0 : decode c_R_value 0 = .ok (.aload_n 0, 1) := by decide +kernel
theorem d_R_value_1 : decode c_R_value 1 = .ok (.getfield 57, 3) := by decide +kernel
theorem d_R_value_4 : decode c_R_value 4 = .ok (.ifCond .eq 25, 3) := by decide +kernel
theorem d_R_value_7 : decode c_R_value 7 = .ok (.aload_n 0, 1) := by decide +kernel
theorem d_R_value_8 : decode c_R_value 8 = .ok (.iload_n 1, 1) := by decide +kernel
theorem d_R_value_9 : decode c_R_value 9 = .ok (.invokevirtual 64, 3) := by decide +kernel
theorem d_R_value_12 : decode c_R_value 12 = .ok (.ifCond .eq 17, 3) := by decide +kernel
theorem d_R_value_15 : decode c_R_value 15 = .ok (.iload_n 2, 1) := by decide +kernel
theorem d_R_value_16 : decode c_R_value 16 = .ok (.ifCond .lt 13, 3) := by decide +kernel
theorem d_R_value_19 : decode c_R_value 19 = .ok (.iload_n 2, 1) := by decide +kernel
theorem d_R_value_20 : decode c_R_value 20 = .ok (.aload_n 0, 1) := by decide +kernel
theorem d_R_value_21 : decode c_R_value 21 = .ok (.getfield 17, 3) := by decide +kernel
theorem d_R_value_24 : decode c_R_value 24 = .ok (.iload_n 1, 1) := by decide +kernel
theorem d_R_value_25 : decode c_R_value 25 = .ok (.iaload, 1) := by decide +kernel
theorem d_R_value_26 : decode c_R_value 26 = .ok (.if_icmp .lt 5, 3) := by decide +kernel
theorem d_R_value_29 : decode c_R_value 29 = .ok (.iconst (-1), 1) := by decide +kernel
theorem d_R_value_30 : decode c_R_value 30 = .ok (.ireturn, 1) := by decide +kernel
theorem d_R_value_31 : decode c_R_value 31 = .ok (.aload_n 0, 1) := by decide +kernel
theorem d_R_value_32 : decode c_R_value 32 = .ok (.iload_n 1, 1) := by decide +kernel
theorem d_R_value_33 : decode c_R_value 33 = .ok (.aload_n 0, 1) := by decide +kernel
theorem d_R_value_34 : decode c_R_value 34 = .ok (.getfield 81, 3) := by decide +kernel
theorem d_R_value_37 : decode c_R_value 37 = .ok (.invokevirtual 87, 3) := by decide +kernel
theorem d_R_value_40 : decode c_R_value 40 = .ok (.istore_n 3, 1) := by decide +kernel
theorem d_R_value_41 : decode c_R_value 41 = .ok (.iload_n 3, 1) := by decide +kernel
theorem d_R_value_42 : decode c_R_value 42 = .ok (.ifCond .ge 7, 3) := by decide +kernel
theorem d_R_value_45 : decode c_R_value 45 = .ok (.iconst (-1), 1) := by decide +kernel
theorem d_R_value_46 : decode c_R_value 46 = .ok (.goto 16, 3) := by decide +kernel
theorem d_R_value_49 : decode c_R_value 49 = .ok (.aload_n 0, 1) := by decide +kernel
theorem d_R_value_50 : decode c_R_value 50 = .ok (.getfield 35, 3) := by decide +kernel
theorem d_R_value_53 : decode c_R_value 53 = .ok (.iconst 3, 1) := by decide +kernel
theorem d_R_value_54 : decode c_R_value 54 = .ok (.iload_n 3, 1) := by decide +kernel
theorem d_R_value_55 : decode c_R_value 55 = .ok (.imul, 1) := by decide +kernel
theorem d_R_value_56 : decode c_R_value 56 = .ok (.iload_n 2, 1) := by decide +kernel
theorem d_R_value_57 : decode c_R_value 57 = .ok (.iadd, 1) := by decide +kernel
theorem d_R_value_58 : decode c_R_value 58 = .ok (.iaload, 1) := by decide +kernel
theorem d_R_value_59 : decode c_R_value 59 = .ok (.invokestatic 109, 3) := by decide +kernel
theorem d_R_value_62 : decode c_R_value 62 = .ok (.ireturn, 1) := by decide +kernel
theorem d_R_told_0 : decode c_R_told 0 = .ok (.iload_n 0, 1) := by decide +kernel
theorem d_R_told_1 : decode c_R_told 1 = .ok (.sipush 1000, 3) := by decide +kernel
theorem d_R_told_4 : decode c_R_told 4 = .ok (.if_icmp .ge 7, 3) := by decide +kernel
theorem d_R_told_7 : decode c_R_told 7 = .ok (.iload_n 0, 1) := by decide +kernel
theorem d_R_told_8 : decode c_R_told 8 = .ok (.goto 15, 3) := by decide +kernel
theorem d_R_told_11 : decode c_R_told 11 = .ok (.sipush 200, 3) := by decide +kernel
theorem d_R_told_14 : decode c_R_told 14 = .ok (.iload_n 0, 1) := by decide +kernel
theorem d_R_told_15 : decode c_R_told 15 = .ok (.sipush 1000, 3) := by decide +kernel
theorem d_R_told_18 : decode c_R_told 18 = .ok (.isub, 1) := by decide +kernel
theorem d_R_told_19 : decode c_R_told 19 = .ok (.bipush 100, 2) := by decide +kernel
theorem d_R_told_21 : decode c_R_told 21 = .ok (.idiv, 1) := by decide +kernel
theorem d_R_told_22 : decode c_R_told 22 = .ok (.iadd, 1) := by decide +kernel
theorem d_R_told_23 : decode c_R_told 23 = .ok (.ireturn, 1) := by decide +kernel
theorem d_R_result_0 : decode c_R_result 0 = .ok (.aload_n 0, 1) := by decide +kernel
theorem d_R_result_1 : decode c_R_result 1 = .ok (.getfield 57, 3) := by decide +kernel
theorem d_R_result_4 : decode c_R_result 4 = .ok (.iconst 2, 1) := by decide +kernel
theorem d_R_result_5 : decode c_R_result 5 = .ok (.if_icmp .ne 13, 3) := by decide +kernel
theorem d_R_result_8 : decode c_R_result 8 = .ok (.aload_n 0, 1) := by decide +kernel
theorem d_R_result_9 : decode c_R_result 9 = .ok (.getfield 98, 3) := by decide +kernel
theorem d_R_result_12 : decode c_R_result 12 = .ok (.invokestatic 109, 3) := by decide +kernel
theorem d_R_result_15 : decode c_R_result 15 = .ok (.goto 4, 3) := by decide +kernel
theorem d_R_result_18 : decode c_R_result 18 = .ok (.iconst (-1), 1) := by decide +kernel
theorem d_R_result_19 : decode c_R_result 19 = .ok (.ireturn, 1) := by decide +kernel
theorem d_R_called_0 : decode c_R_called 0 = .ok (.aload_n 0, 1) := by decide +kernel
theorem d_R_called_1 : decode c_R_called 1 = .ok (.getfield 57, 3) := by decide +kernel
theorem d_R_called_4 : decode c_R_called 4 = .ok (.ifCond .eq 11, 3) := by decide +kernel
theorem d_R_called_7 : decode c_R_called 7 = .ok (.aload_n 0, 1) := by decide +kernel
theorem d_R_called_8 : decode c_R_called 8 = .ok (.iload_n 1, 1) := by decide +kernel
theorem d_R_called_9 : decode c_R_called 9 = .ok (.invokevirtual 64, 3) := by decide +kernel
theorem d_R_called_12 : decode c_R_called 12 = .ok (.ifCond .ne 7, 3) := by decide +kernel
theorem d_R_called_15 : decode c_R_called 15 = .ok (.iconst (-1), 1) := by decide +kernel
theorem d_R_called_16 : decode c_R_called 16 = .ok (.goto 9, 3) := by decide +kernel
theorem d_R_called_19 : decode c_R_called 19 = .ok (.aload_n 0, 1) := by decide +kernel
theorem d_R_called_20 : decode c_R_called 20 = .ok (.getfield 26, 3) := by decide +kernel
theorem d_R_called_23 : decode c_R_called 23 = .ok (.iload_n 1, 1) := by decide +kernel
theorem d_R_called_24 : decode c_R_called 24 = .ok (.iaload, 1) := by decide +kernel
theorem d_R_called_25 : decode c_R_called 25 = .ok (.ireturn, 1) := by decide +kernel
theorem d_R_analyse_0 : decode c_R_analyse 0 = .ok (.iload_n 1, 1) := by decide +kernel
theorem d_R_analyse_1 : decode c_R_analyse 1 = .ok (.ifCond .eq 10, 3) := by decide +kernel
theorem d_R_analyse_4 : decode c_R_analyse 4 = .ok (.iload_n 1, 1) := by decide +kernel
theorem d_R_analyse_5 : decode c_R_analyse 5 = .ok (.iconst 1, 1) := by decide +kernel
theorem d_R_analyse_6 : decode c_R_analyse 6 = .ok (.if_icmp .eq 5, 3) := by decide +kernel
theorem d_R_analyse_9 : decode c_R_analyse 9 = .ok (.iconst (-1), 1) := by decide +kernel
theorem d_R_analyse_10 : decode c_R_analyse 10 = .ok (.ireturn, 1) := by decide +kernel
theorem d_R_analyse_11 : decode c_R_analyse 11 = .ok (.aload_n 0, 1) := by decide +kernel
theorem d_R_analyse_12 : decode c_R_analyse 12 = .ok (.iload_n 1, 1) := by decide +kernel
theorem d_R_analyse_13 : decode c_R_analyse 13 = .ok (.putfield 117, 3) := by decide +kernel
theorem d_R_analyse_16 : decode c_R_analyse 16 = .ok (.aload_n 0, 1) := by decide +kernel
theorem d_R_analyse_17 : decode c_R_analyse 17 = .ok (.iconst 1, 1) := by decide +kernel
theorem d_R_analyse_18 : decode c_R_analyse 18 = .ok (.putfield 60, 3) := by decide +kernel
theorem d_R_analyse_21 : decode c_R_analyse 21 = .ok (.iconst 0, 1) := by decide +kernel
theorem d_R_analyse_22 : decode c_R_analyse 22 = .ok (.istore_n 2, 1) := by decide +kernel
theorem d_R_analyse_23 : decode c_R_analyse 23 = .ok (.iload_n 2, 1) := by decide +kernel
theorem d_R_analyse_24 : decode c_R_analyse 24 = .ok (.sipush 192, 3) := by decide +kernel
theorem d_R_analyse_27 : decode c_R_analyse 27 = .ok (.if_icmp .ge 23, 3) := by decide +kernel
theorem d_R_analyse_30 : decode c_R_analyse 30 = .ok (.aload_n 0, 1) := by decide +kernel
theorem d_R_analyse_31 : decode c_R_analyse 31 = .ok (.getfield 41, 3) := by decide +kernel
theorem d_R_analyse_34 : decode c_R_analyse 34 = .ok (.iload_n 2, 1) := by decide +kernel
theorem d_R_analyse_35 : decode c_R_analyse 35 = .ok (.iconst 0, 1) := by decide +kernel
theorem d_R_analyse_36 : decode c_R_analyse 36 = .ok (.iastore, 1) := by decide +kernel
theorem d_R_analyse_37 : decode c_R_analyse 37 = .ok (.aload_n 0, 1) := by decide +kernel
theorem d_R_analyse_38 : decode c_R_analyse 38 = .ok (.getfield 44, 3) := by decide +kernel
theorem d_R_analyse_41 : decode c_R_analyse 41 = .ok (.iload_n 2, 1) := by decide +kernel
theorem d_R_analyse_42 : decode c_R_analyse 42 = .ok (.lconst 0, 1) := by decide +kernel
theorem d_R_analyse_43 : decode c_R_analyse 43 = .ok (.lastore, 1) := by decide +kernel
theorem d_R_analyse_44 : decode c_R_analyse 44 = .ok (.iinc 2 1, 3) := by decide +kernel
theorem d_R_analyse_47 : decode c_R_analyse 47 = .ok (.goto (-24), 3) := by decide +kernel
theorem d_R_analyse_50 : decode c_R_analyse 50 = .ok (.iconst 0, 1) := by decide +kernel
theorem d_R_analyse_51 : decode c_R_analyse 51 = .ok (.istore_n 2, 1) := by decide +kernel
theorem d_R_analyse_52 : decode c_R_analyse 52 = .ok (.iload_n 2, 1) := by decide +kernel
theorem d_R_analyse_53 : decode c_R_analyse 53 = .ok (.bipush 8, 2) := by decide +kernel
theorem d_R_analyse_55 : decode c_R_analyse 55 = .ok (.if_icmp .ge 16, 3) := by decide +kernel
theorem d_R_analyse_58 : decode c_R_analyse 58 = .ok (.aload_n 0, 1) := by decide +kernel
theorem d_R_analyse_59 : decode c_R_analyse 59 = .ok (.getfield 48, 3) := by decide +kernel
theorem d_R_analyse_62 : decode c_R_analyse 62 = .ok (.iload_n 2, 1) := by decide +kernel
theorem d_R_analyse_63 : decode c_R_analyse 63 = .ok (.iconst 0, 1) := by decide +kernel
theorem d_R_analyse_64 : decode c_R_analyse 64 = .ok (.iastore, 1) := by decide +kernel
theorem d_R_analyse_65 : decode c_R_analyse 65 = .ok (.iinc 2 1, 3) := by decide +kernel
theorem d_R_analyse_68 : decode c_R_analyse 68 = .ok (.goto (-16), 3) := by decide +kernel
theorem d_R_analyse_71 : decode c_R_analyse 71 = .ok (.aload_n 0, 1) := by decide +kernel
theorem d_R_analyse_72 : decode c_R_analyse 72 = .ok (.lconst 1, 1) := by decide +kernel
theorem d_R_analyse_73 : decode c_R_analyse 73 = .ok (.putfield 128, 3) := by decide +kernel
theorem d_R_analyse_76 : decode c_R_analyse 76 = .ok (.aload_n 0, 1) := by decide +kernel
theorem d_R_analyse_77 : decode c_R_analyse 77 = .ok (.iconst 0, 1) := by decide +kernel
theorem d_R_analyse_78 : decode c_R_analyse 78 = .ok (.putfield 132, 3) := by decide +kernel
theorem d_R_analyse_81 : decode c_R_analyse 81 = .ok (.aload_n 0, 1) := by decide +kernel
theorem d_R_analyse_82 : decode c_R_analyse 82 = .ok (.iconst 1, 1) := by decide +kernel
theorem d_R_analyse_83 : decode c_R_analyse 83 = .ok (.putfield 114, 3) := by decide +kernel
theorem d_R_analyse_86 : decode c_R_analyse 86 = .ok (.iconst 0, 1) := by decide +kernel
theorem d_R_analyse_87 : decode c_R_analyse 87 = .ok (.istore_n 2, 1) := by decide +kernel
theorem d_R_analyse_88 : decode c_R_analyse 88 = .ok (.iload_n 2, 1) := by decide +kernel
theorem d_R_analyse_89 : decode c_R_analyse 89 = .ok (.sipush 20000, 3) := by decide +kernel
theorem d_R_analyse_92 : decode c_R_analyse 92 = .ok (.if_icmp .ge 88, 3) := by decide +kernel
theorem d_R_analyse_95 : decode c_R_analyse 95 = .ok (.aload_n 0, 1) := by decide +kernel
theorem d_R_analyse_96 : decode c_R_analyse 96 = .ok (.getfield 114, 3) := by decide +kernel
theorem d_R_analyse_99 : decode c_R_analyse 99 = .ok (.ifCond .eq 81, 3) := by decide +kernel
theorem d_R_analyse_102 : decode c_R_analyse 102 = .ok (.aload_n 0, 1) := by decide +kernel
theorem d_R_analyse_103 : decode c_R_analyse 103 = .ok (.iconst 0, 1) := by decide +kernel
theorem d_R_analyse_104 : decode c_R_analyse 104 = .ok (.putfield 114, 3) := by decide +kernel
theorem d_R_analyse_107 : decode c_R_analyse 107 = .ok (.iconst 0, 1) := by decide +kernel
theorem d_R_analyse_108 : decode c_R_analyse 108 = .ok (.istore_n 3, 1) := by decide +kernel
theorem d_R_analyse_109 : decode c_R_analyse 109 = .ok (.iload_n 3, 1) := by decide +kernel
theorem d_R_analyse_110 : decode c_R_analyse 110 = .ok (.aload_n 0, 1) := by decide +kernel
theorem d_R_analyse_111 : decode c_R_analyse 111 = .ok (.getfield 7, 3) := by decide +kernel
theorem d_R_analyse_114 : decode c_R_analyse 114 = .ok (.if_icmp .ge 60, 3) := by decide +kernel
theorem d_R_analyse_117 : decode c_R_analyse 117 = .ok (.iconst 0, 1) := by decide +kernel
theorem d_R_analyse_118 : decode c_R_analyse 118 = .ok (.istore 4, 2) := by decide +kernel
theorem d_R_analyse_120 : decode c_R_analyse 120 = .ok (.iload 4, 2) := by decide +kernel
theorem d_R_analyse_122 : decode c_R_analyse 122 = .ok (.bipush 8, 2) := by decide +kernel
theorem d_R_analyse_124 : decode c_R_analyse 124 = .ok (.if_icmp .ge 44, 3) := by decide +kernel
theorem d_R_analyse_127 : decode c_R_analyse 127 = .ok (.aload_n 0, 1) := by decide +kernel
theorem d_R_analyse_128 : decode c_R_analyse 128 = .ok (.getfield 128, 3) := by decide +kernel
theorem d_R_analyse_131 : decode c_R_analyse 131 = .ok (.bipush 8, 2) := by decide +kernel
theorem d_R_analyse_133 : decode c_R_analyse 133 = .ok (.iload_n 3, 1) := by decide +kernel
theorem d_R_analyse_134 : decode c_R_analyse 134 = .ok (.imul, 1) := by decide +kernel
theorem d_R_analyse_135 : decode c_R_analyse 135 = .ok (.iload 4, 2) := by decide +kernel
theorem d_R_analyse_137 : decode c_R_analyse 137 = .ok (.iadd, 1) := by decide +kernel
theorem d_R_analyse_138 : decode c_R_analyse 138 = .ok (.lushr, 1) := by decide +kernel
theorem d_R_analyse_139 : decode c_R_analyse 139 = .ok (.lconst 1, 1) := by decide +kernel
theorem d_R_analyse_140 : decode c_R_analyse 140 = .ok (.land, 1) := by decide +kernel
theorem d_R_analyse_141 : decode c_R_analyse 141 = .ok (.lconst 1, 1) := by decide +kernel
theorem d_R_analyse_142 : decode c_R_analyse 142 = .ok (.lcmp, 1) := by decide +kernel
theorem d_R_analyse_143 : decode c_R_analyse 143 = .ok (.ifCond .ne 19, 3) := by decide +kernel
theorem d_R_analyse_146 : decode c_R_analyse 146 = .ok (.aload_n 0, 1) := by decide +kernel
theorem d_R_analyse_147 : decode c_R_analyse 147 = .ok (.getfield 20, 3) := by decide +kernel
theorem d_R_analyse_150 : decode c_R_analyse 150 = .ok (.iload_n 3, 1) := by decide +kernel
theorem d_R_analyse_151 : decode c_R_analyse 151 = .ok (.iaload, 1) := by decide +kernel
theorem d_R_analyse_152 : decode c_R_analyse 152 = .ok (.ifCond .le 10, 3) := by decide +kernel
theorem d_R_analyse_155 : decode c_R_analyse 155 = .ok (.aload_n 0, 1) := by decide +kernel
theorem d_R_analyse_156 : decode c_R_analyse 156 = .ok (.iload_n 3, 1) := by decide +kernel
theorem d_R_analyse_157 : decode c_R_analyse 157 = .ok (.iload 4, 2) := by decide +kernel
theorem d_R_analyse_159 : decode c_R_analyse 159 = .ok (.invokevirtual 149, 3) := by decide +kernel
theorem d_R_analyse_162 : decode c_R_analyse 162 = .ok (.iinc 4 1, 3) := by decide +kernel
theorem d_R_analyse_165 : decode c_R_analyse 165 = .ok (.goto (-45), 3) := by decide +kernel
theorem d_R_analyse_168 : decode c_R_analyse 168 = .ok (.iinc 3 1, 3) := by decide +kernel
theorem d_R_analyse_171 : decode c_R_analyse 171 = .ok (.goto (-62), 3) := by decide +kernel
theorem d_R_analyse_174 : decode c_R_analyse 174 = .ok (.iinc 2 1, 3) := by decide +kernel
theorem d_R_analyse_177 : decode c_R_analyse 177 = .ok (.goto (-89), 3) := by decide +kernel
theorem d_R_analyse_180 : decode c_R_analyse 180 = .ok (.iconst 0, 1) := by decide +kernel
theorem d_R_analyse_181 : decode c_R_analyse 181 = .ok (.istore_n 2, 1) := by decide +kernel
theorem d_R_analyse_182 : decode c_R_analyse 182 = .ok (.iconst 0, 1) := by decide +kernel
theorem d_R_analyse_183 : decode c_R_analyse 183 = .ok (.istore_n 3, 1) := by decide +kernel
theorem d_R_analyse_184 : decode c_R_analyse 184 = .ok (.iload_n 3, 1) := by decide +kernel
theorem d_R_analyse_185 : decode c_R_analyse 185 = .ok (.bipush 64, 2) := by decide +kernel
theorem d_R_analyse_187 : decode c_R_analyse 187 = .ok (.if_icmp .ge 30, 3) := by decide +kernel
theorem d_R_analyse_190 : decode c_R_analyse 190 = .ok (.aload_n 0, 1) := by decide +kernel
theorem d_R_analyse_191 : decode c_R_analyse 191 = .ok (.getfield 128, 3) := by decide +kernel
theorem d_R_analyse_194 : decode c_R_analyse 194 = .ok (.iload_n 3, 1) := by decide +kernel
theorem d_R_analyse_195 : decode c_R_analyse 195 = .ok (.lushr, 1) := by decide +kernel
theorem d_R_analyse_196 : decode c_R_analyse 196 = .ok (.lconst 1, 1) := by decide +kernel
theorem d_R_analyse_197 : decode c_R_analyse 197 = .ok (.land, 1) := by decide +kernel
theorem d_R_analyse_198 : decode c_R_analyse 198 = .ok (.lconst 1, 1) := by decide +kernel
theorem d_R_analyse_199 : decode c_R_analyse 199 = .ok (.lcmp, 1) := by decide +kernel
theorem d_R_analyse_200 : decode c_R_analyse 200 = .ok (.ifCond .ne 9, 3) := by decide +kernel
theorem d_R_analyse_203 : decode c_R_analyse 203 = .ok (.iload_n 2, 1) := by decide +kernel
theorem d_R_analyse_204 : decode c_R_analyse 204 = .ok (.iconst 1, 1) := by decide +kernel
theorem d_R_analyse_205 : decode c_R_analyse 205 = .ok (.iadd, 1) := by decide +kernel
theorem d_R_analyse_206 : decode c_R_analyse 206 = .ok (.goto 4, 3) := by decide +kernel
theorem d_R_analyse_209 : decode c_R_analyse 209 = .ok (.iload_n 2, 1) := by decide +kernel
theorem d_R_analyse_210 : decode c_R_analyse 210 = .ok (.istore_n 2, 1) := by decide +kernel
theorem d_R_analyse_211 : decode c_R_analyse 211 = .ok (.iinc 3 1, 3) := by decide +kernel
theorem d_R_analyse_214 : decode c_R_analyse 214 = .ok (.goto (-30), 3) := by decide +kernel
theorem d_R_analyse_217 : decode c_R_analyse 217 = .ok (.iload_n 2, 1) := by decide +kernel
theorem d_R_analyse_218 : decode c_R_analyse 218 = .ok (.ireturn, 1) := by decide +kernel
theorem d_R_visit_0 : decode c_R_visit 0 = .ok (.iconst 0, 1) := by decide +kernel
theorem d_R_visit_1 : decode c_R_visit 1 = .ok (.istore_n 3, 1) := by decide +kernel
theorem d_R_visit_2 : decode c_R_visit 2 = .ok (.iload_n 3, 1) := by decide +kernel
theorem d_R_visit_3 : decode c_R_visit 3 = .ok (.aload_n 0, 1) := by decide +kernel
theorem d_R_visit_4 : decode c_R_visit 4 = .ok (.getfield 20, 3) := by decide +kernel
theorem d_R_visit_7 : decode c_R_visit 7 = .ok (.iload_n 1, 1) := by decide +kernel
theorem d_R_visit_8 : decode c_R_visit 8 = .ok (.iaload, 1) := by decide +kernel
theorem d_R_visit_9 : decode c_R_visit 9 = .ok (.if_icmp .ge 16, 3) := by decide +kernel
theorem d_R_visit_12 : decode c_R_visit 12 = .ok (.aload_n 0, 1) := by decide +kernel
theorem d_R_visit_13 : decode c_R_visit 13 = .ok (.iload_n 1, 1) := by decide +kernel
theorem d_R_visit_14 : decode c_R_visit 14 = .ok (.iload_n 2, 1) := by decide +kernel
theorem d_R_visit_15 : decode c_R_visit 15 = .ok (.iload_n 3, 1) := by decide +kernel
theorem d_R_visit_16 : decode c_R_visit 16 = .ok (.invokevirtual 135, 3) := by decide +kernel
theorem d_R_visit_19 : decode c_R_visit 19 = .ok (.iinc 3 1, 3) := by decide +kernel
theorem d_R_visit_22 : decode c_R_visit 22 = .ok (.goto (-20), 3) := by decide +kernel
theorem d_R_visit_25 : decode c_R_visit 25 = .ok (.aload_n 0, 1) := by decide +kernel
theorem d_R_visit_26 : decode c_R_visit 26 = .ok (.getfield 20, 3) := by decide +kernel
theorem d_R_visit_29 : decode c_R_visit 29 = .ok (.iload_n 1, 1) := by decide +kernel
theorem d_R_visit_30 : decode c_R_visit 30 = .ok (.iaload, 1) := by decide +kernel
theorem d_R_visit_31 : decode c_R_visit 31 = .ok (.iconst 1, 1) := by decide +kernel
theorem d_R_visit_32 : decode c_R_visit 32 = .ok (.isub, 1) := by decide +kernel
theorem d_R_visit_33 : decode c_R_visit 33 = .ok (.istore_n 3, 1) := by decide +kernel
theorem d_R_visit_34 : decode c_R_visit 34 = .ok (.aload_n 0, 1) := by decide +kernel
theorem d_R_visit_35 : decode c_R_visit 35 = .ok (.getfield 51, 3) := by decide +kernel
theorem d_R_visit_38 : decode c_R_visit 38 = .ok (.iconst 0, 1) := by decide +kernel
theorem d_R_visit_39 : decode c_R_visit 39 = .ok (.iaload, 1) := by decide +kernel
theorem d_R_visit_40 : decode c_R_visit 40 = .ok (.istore 4, 2) := by decide +kernel
theorem d_R_visit_42 : decode c_R_visit 42 = .ok (.aload_n 0, 1) := by decide +kernel
theorem d_R_visit_43 : decode c_R_visit 43 = .ok (.aload_n 0, 1) := by decide +kernel
theorem d_R_visit_44 : decode c_R_visit 44 = .ok (.getfield 54, 3) := by decide +kernel
theorem d_R_visit_47 : decode c_R_visit 47 = .ok (.iconst 0, 1) := by decide +kernel
theorem d_R_visit_48 : decode c_R_visit 48 = .ok (.laload, 1) := by decide +kernel
theorem d_R_visit_49 : decode c_R_visit 49 = .ok (.iload_n 1, 1) := by decide +kernel
theorem d_R_visit_50 : decode c_R_visit 50 = .ok (.iload_n 3, 1) := by decide +kernel
theorem d_R_visit_51 : decode c_R_visit 51 = .ok (.iconst 1, 1) := by decide +kernel
theorem d_R_visit_52 : decode c_R_visit 52 = .ok (.invokevirtual 138, 3) := by decide +kernel
theorem d_R_visit_55 : decode c_R_visit 55 = .ok (.iload 4, 2) := by decide +kernel
theorem d_R_visit_57 : decode c_R_visit 57 = .ok (.bipush 10, 2) := by decide +kernel
theorem d_R_visit_59 : decode c_R_visit 59 = .ok (.ishr, 1) := by decide +kernel
theorem d_R_visit_60 : decode c_R_visit 60 = .ok (.iconst 1, 1) := by decide +kernel
theorem d_R_visit_61 : decode c_R_visit 61 = .ok (.iand, 1) := by decide +kernel
theorem d_R_visit_62 : decode c_R_visit 62 = .ok (.iconst 1, 1) := by decide +kernel
theorem d_R_visit_63 : decode c_R_visit 63 = .ok (.if_icmp .ne 13, 3) := by decide +kernel
theorem d_R_visit_66 : decode c_R_visit 66 = .ok (.iload_n 3, 1) := by decide +kernel
theorem d_R_visit_67 : decode c_R_visit 67 = .ok (.iconst 1, 1) := by decide +kernel
theorem d_R_visit_68 : decode c_R_visit 68 = .ok (.if_icmp .ne 8, 3) := by decide +kernel
theorem d_R_visit_71 : decode c_R_visit 71 = .ok (.aload_n 0, 1) := by decide +kernel
theorem d_R_visit_72 : decode c_R_visit 72 = .ok (.iconst 1, 1) := by decide +kernel
theorem d_R_visit_73 : decode c_R_visit 73 = .ok (.invokevirtual 142, 3) := by decide +kernel
theorem d_R_visit_76 : decode c_R_visit 76 = .ok (.iload 4, 2) := by decide +kernel
theorem d_R_visit_78 : decode c_R_visit 78 = .ok (.bipush 12, 2) := by decide +kernel
theorem d_R_visit_80 : decode c_R_visit 80 = .ok (.ishr, 1) := by decide +kernel
theorem d_R_visit_81 : decode c_R_visit 81 = .ok (.iconst 1, 1) := by decide +kernel
theorem d_R_visit_82 : decode c_R_visit 82 = .ok (.iand, 1) := by decide +kernel
theorem d_R_visit_83 : decode c_R_visit 83 = .ok (.iconst 1, 1) := by decide +kernel
theorem d_R_visit_84 : decode c_R_visit 84 = .ok (.if_icmp .ne 59, 3) := by decide +kernel
theorem d_R_visit_87 : decode c_R_visit 87 = .ok (.iload_n 3, 1) := by decide +kernel
theorem d_R_visit_88 : decode c_R_visit 88 = .ok (.iconst 3, 1) := by decide +kernel
theorem d_R_visit_89 : decode c_R_visit 89 = .ok (.if_icmp .ne 54, 3) := by decide +kernel
theorem d_R_visit_92 : decode c_R_visit 92 = .ok (.aload_n 0, 1) := by decide +kernel
theorem d_R_visit_93 : decode c_R_visit 93 = .ok (.getfield 51, 3) := by decide +kernel
theorem d_R_visit_96 : decode c_R_visit 96 = .ok (.iconst 1, 1) := by decide +kernel
theorem d_R_visit_97 : decode c_R_visit 97 = .ok (.iaload, 1) := by decide +kernel
theorem d_R_visit_98 : decode c_R_visit 98 = .ok (.iconst 1, 1) := by decide +kernel
theorem d_R_visit_99 : decode c_R_visit 99 = .ok (.iand, 1) := by decide +kernel
theorem d_R_visit_100 : decode c_R_visit 100 = .ok (.iconst 1, 1) := by decide +kernel
theorem d_R_visit_101 : decode c_R_visit 101 = .ok (.if_icmp .ne 16, 3) := by decide +kernel
theorem d_R_visit_104 : decode c_R_visit 104 = .ok (.aload_n 0, 1) := by decide +kernel
theorem d_R_visit_105 : decode c_R_visit 105 = .ok (.aload_n 0, 1) := by decide +kernel
theorem d_R_visit_106 : decode c_R_visit 106 = .ok (.getfield 54, 3) := by decide +kernel
theorem d_R_visit_109 : decode c_R_visit 109 = .ok (.iconst 2, 1) := by decide +kernel
theorem d_R_visit_110 : decode c_R_visit 110 = .ok (.laload, 1) := by decide +kernel
theorem d_R_visit_111 : decode c_R_visit 111 = .ok (.iload_n 1, 1) := by decide +kernel
theorem d_R_visit_112 : decode c_R_visit 112 = .ok (.iconst 0, 1) := by decide +kernel
theorem d_R_visit_113 : decode c_R_visit 113 = .ok (.iconst 1, 1) := by decide +kernel
theorem d_R_visit_114 : decode c_R_visit 114 = .ok (.invokevirtual 138, 3) := by decide +kernel
theorem d_R_visit_117 : decode c_R_visit 117 = .ok (.aload_n 0, 1) := by decide +kernel
theorem d_R_visit_118 : decode c_R_visit 118 = .ok (.getfield 51, 3) := by decide +kernel
theorem d_R_visit_121 : decode c_R_visit 121 = .ok (.iconst 1, 1) := by decide +kernel
theorem d_R_visit_122 : decode c_R_visit 122 = .ok (.iaload, 1) := by decide +kernel
theorem d_R_visit_123 : decode c_R_visit 123 = .ok (.sipush 1022, 3) := by decide +kernel
theorem d_R_visit_126 : decode c_R_visit 126 = .ok (.iand, 1) := by decide +kernel
theorem d_R_visit_127 : decode c_R_visit 127 = .ok (.ifCond .eq 16, 3) := by decide +kernel
theorem d_R_visit_130 : decode c_R_visit 130 = .ok (.aload_n 0, 1) := by decide +kernel
theorem d_R_visit_131 : decode c_R_visit 131 = .ok (.aload_n 0, 1) := by decide +kernel
theorem d_R_visit_132 : decode c_R_visit 132 = .ok (.getfield 54, 3) := by decide +kernel
theorem d_R_visit_135 : decode c_R_visit 135 = .ok (.iconst 3, 1) := by decide +kernel
theorem d_R_visit_136 : decode c_R_visit 136 = .ok (.laload, 1) := by decide +kernel
theorem d_R_visit_137 : decode c_R_visit 137 = .ok (.iload_n 1, 1) := by decide +kernel
theorem d_R_visit_138 : decode c_R_visit 138 = .ok (.iconst 0, 1) := by decide +kernel
theorem d_R_visit_139 : decode c_R_visit 139 = .ok (.iconst 1, 1) := by decide +kernel
theorem d_R_visit_140 : decode c_R_visit 140 = .ok (.invokevirtual 138, 3) := by decide +kernel
theorem d_R_visit_143 : decode c_R_visit 143 = .ok (.iload 4, 2) := by decide +kernel
theorem d_R_visit_145 : decode c_R_visit 145 = .ok (.bipush 11, 2) := by decide +kernel
theorem d_R_visit_147 : decode c_R_visit 147 = .ok (.ishr, 1) := by decide +kernel
theorem d_R_visit_148 : decode c_R_visit 148 = .ok (.iconst 1, 1) := by decide +kernel
theorem d_R_visit_149 : decode c_R_visit 149 = .ok (.iand, 1) := by decide +kernel
theorem d_R_visit_150 : decode c_R_visit 150 = .ok (.iconst 1, 1) := by decide +kernel
theorem d_R_visit_151 : decode c_R_visit 151 = .ok (.if_icmp .ne 78, 3) := by decide +kernel
theorem d_R_visit_154 : decode c_R_visit 154 = .ok (.iload_n 3, 1) := by decide +kernel
theorem d_R_visit_155 : decode c_R_visit 155 = .ok (.iconst 3, 1) := by decide +kernel
theorem d_R_visit_156 : decode c_R_visit 156 = .ok (.if_icmp .ne 73, 3) := by decide +kernel
theorem d_R_visit_159 : decode c_R_visit 159 = .ok (.aload_n 0, 1) := by decide +kernel
theorem d_R_visit_160 : decode c_R_visit 160 = .ok (.getfield 51, 3) := by decide +kernel
theorem d_R_visit_163 : decode c_R_visit 163 = .ok (.iconst 1, 1) := by decide +kernel
theorem d_R_visit_164 : decode c_R_visit 164 = .ok (.iaload, 1) := by decide +kernel
theorem d_R_visit_165 : decode c_R_visit 165 = .ok (.aload_n 0, 1) := by decide +kernel
theorem d_R_visit_166 : decode c_R_visit 166 = .ok (.getfield 51, 3) := by decide +kernel
theorem d_R_visit_169 : decode c_R_visit 169 = .ok (.iconst 2, 1) := by decide +kernel
theorem d_R_visit_170 : decode c_R_visit 170 = .ok (.iaload, 1) := by decide +kernel
theorem d_R_visit_171 : decode c_R_visit 171 = .ok (.invokestatic 146, 3) := by decide +kernel
theorem d_R_visit_174 : decode c_R_visit 174 = .ok (.istore 5, 2) := by decide +kernel
theorem d_R_visit_176 : decode c_R_visit 176 = .ok (.iload 5, 2) := by decide +kernel
theorem d_R_visit_178 : decode c_R_visit 178 = .ok (.ifCond .eq 51, 3) := by decide +kernel
theorem d_R_visit_181 : decode c_R_visit 181 = .ok (.aload_n 0, 1) := by decide +kernel
theorem d_R_visit_182 : decode c_R_visit 182 = .ok (.getfield 51, 3) := by decide +kernel
theorem d_R_visit_185 : decode c_R_visit 185 = .ok (.iconst 1, 1) := by decide +kernel
theorem d_R_visit_186 : decode c_R_visit 186 = .ok (.iload 5, 2) := by decide +kernel
theorem d_R_visit_188 : decode c_R_visit 188 = .ok (.iastore, 1) := by decide +kernel
theorem d_R_visit_189 : decode c_R_visit 189 = .ok (.aload_n 0, 1) := by decide +kernel
theorem d_R_visit_190 : decode c_R_visit 190 = .ok (.getfield 54, 3) := by decide +kernel
theorem d_R_visit_193 : decode c_R_visit 193 = .ok (.iconst 1, 1) := by decide +kernel
theorem d_R_visit_194 : decode c_R_visit 194 = .ok (.lconst 0, 1) := by decide +kernel
theorem d_R_visit_195 : decode c_R_visit 195 = .ok (.lastore, 1) := by decide +kernel
theorem d_R_visit_196 : decode c_R_visit 196 = .ok (.aload_n 0, 1) := by decide +kernel
theorem d_R_visit_197 : decode c_R_visit 197 = .ok (.aload_n 0, 1) := by decide +kernel
theorem d_R_visit_198 : decode c_R_visit 198 = .ok (.getfield 54, 3) := by decide +kernel
theorem d_R_visit_201 : decode c_R_visit 201 = .ok (.iconst 3, 1) := by decide +kernel
theorem d_R_visit_202 : decode c_R_visit 202 = .ok (.laload, 1) := by decide +kernel
theorem d_R_visit_203 : decode c_R_visit 203 = .ok (.iload_n 1, 1) := by decide +kernel
theorem d_R_visit_204 : decode c_R_visit 204 = .ok (.iconst 1, 1) := by decide +kernel
theorem d_R_visit_205 : decode c_R_visit 205 = .ok (.iconst 1, 1) := by decide +kernel
theorem d_R_visit_206 : decode c_R_visit 206 = .ok (.invokevirtual 138, 3) := by decide +kernel
theorem d_R_visit_209 : decode c_R_visit 209 = .ok (.aload_n 0, 1) := by decide +kernel
theorem d_R_visit_210 : decode c_R_visit 210 = .ok (.getfield 51, 3) := by decide +kernel
theorem d_R_visit_213 : decode c_R_visit 213 = .ok (.iconst 3, 1) := by decide +kernel
theorem d_R_visit_214 : decode c_R_visit 214 = .ok (.iaload, 1) := by decide +kernel
theorem d_R_visit_215 : decode c_R_visit 215 = .ok (.bipush 10, 2) := by decide +kernel
theorem d_R_visit_217 : decode c_R_visit 217 = .ok (.ishr, 1) := by decide +kernel
theorem d_R_visit_218 : decode c_R_visit 218 = .ok (.iconst 1, 1) := by decide +kernel
theorem d_R_visit_219 : decode c_R_visit 219 = .ok (.iand, 1) := by decide +kernel
theorem d_R_visit_220 : decode c_R_visit 220 = .ok (.iconst 1, 1) := by decide +kernel
theorem d_R_visit_221 : decode c_R_visit 221 = .ok (.if_icmp .ne 8, 3) := by decide +kernel
theorem d_R_visit_224 : decode c_R_visit 224 = .ok (.aload_n 0, 1) := by decide +kernel
theorem d_R_visit_225 : decode c_R_visit 225 = .ok (.iconst 1, 1) := by decide +kernel
theorem d_R_visit_226 : decode c_R_visit 226 = .ok (.invokevirtual 142, 3) := by decide +kernel
theorem d_R_visit_229 : decode c_R_visit 229 = .ok (.return_, 1) := by decide +kernel
theorem d_R_look_0 : decode c_R_look 0 = .ok (.aload_n 0, 1) := by decide +kernel
theorem d_R_look_1 : decode c_R_look 1 = .ok (.getfield 23, 3) := by decide +kernel
theorem d_R_look_4 : decode c_R_look 4 = .ok (.iconst 4, 1) := by decide +kernel
theorem d_R_look_5 : decode c_R_look 5 = .ok (.iload_n 1, 1) := by decide +kernel
theorem d_R_look_6 : decode c_R_look 6 = .ok (.imul, 1) := by decide +kernel
theorem d_R_look_7 : decode c_R_look 7 = .ok (.iload_n 3, 1) := by decide +kernel
theorem d_R_look_8 : decode c_R_look 8 = .ok (.iadd, 1) := by decide +kernel
theorem d_R_look_9 : decode c_R_look 9 = .ok (.iaload, 1) := by decide +kernel
theorem d_R_look_10 : decode c_R_look 10 = .ok (.istore 4, 2) := by decide +kernel
theorem d_R_look_12 : decode c_R_look 12 = .ok (.aload_n 0, 1) := by decide +kernel
theorem d_R_look_13 : decode c_R_look 13 = .ok (.getfield 51, 3) := by decide +kernel
theorem d_R_look_16 : decode c_R_look 16 = .ok (.iload_n 3, 1) := by decide +kernel
theorem d_R_look_17 : decode c_R_look 17 = .ok (.iconst 0, 1) := by decide +kernel
theorem d_R_look_18 : decode c_R_look 18 = .ok (.iastore, 1) := by decide +kernel
theorem d_R_look_19 : decode c_R_look 19 = .ok (.aload_n 0, 1) := by decide +kernel
theorem d_R_look_20 : decode c_R_look 20 = .ok (.getfield 54, 3) := by decide +kernel
theorem d_R_look_23 : decode c_R_look 23 = .ok (.iload_n 3, 1) := by decide +kernel
theorem d_R_look_24 : decode c_R_look 24 = .ok (.lconst 0, 1) := by decide +kernel
theorem d_R_look_25 : decode c_R_look 25 = .ok (.lastore, 1) := by decide +kernel
theorem d_R_look_26 : decode c_R_look 26 = .ok (.iload 4, 2) := by decide +kernel
theorem d_R_look_28 : decode c_R_look 28 = .ok (.bipush 10, 2) := by decide +kernel
theorem d_R_look_30 : decode c_R_look 30 = .ok (.if_icmp .ge 16, 3) := by decide +kernel
theorem d_R_look_33 : decode c_R_look 33 = .ok (.aload_n 0, 1) := by decide +kernel
theorem d_R_look_34 : decode c_R_look 34 = .ok (.getfield 51, 3) := by decide +kernel
theorem d_R_look_37 : decode c_R_look 37 = .ok (.iload_n 3, 1) := by decide +kernel
theorem d_R_look_38 : decode c_R_look 38 = .ok (.iconst 1, 1) := by decide +kernel
theorem d_R_look_39 : decode c_R_look 39 = .ok (.iload 4, 2) := by decide +kernel
theorem d_R_look_41 : decode c_R_look 41 = .ok (.ishl, 1) := by decide +kernel
theorem d_R_look_42 : decode c_R_look 42 = .ok (.iastore, 1) := by decide +kernel
theorem d_R_look_43 : decode c_R_look 43 = .ok (.goto 110, 3) := by decide +kernel
theorem d_R_look_46 : decode c_R_look 46 = .ok (.iload 4, 2) := by decide +kernel
theorem d_R_look_48 : decode c_R_look 48 = .ok (.sipush 300, 3) := by decide +kernel
theorem d_R_look_51 : decode c_R_look 51 = .ok (.if_icmp .lt 23, 3) := by decide +kernel
theorem d_R_look_54 : decode c_R_look 54 = .ok (.aload_n 0, 1) := by decide +kernel
theorem d_R_look_55 : decode c_R_look 55 = .ok (.getfield 51, 3) := by decide +kernel
theorem d_R_look_58 : decode c_R_look 58 = .ok (.iload_n 3, 1) := by decide +kernel
theorem d_R_look_59 : decode c_R_look 59 = .ok (.iconst 1, 1) := by decide +kernel
theorem d_R_look_60 : decode c_R_look 60 = .ok (.iload 4, 2) := by decide +kernel
theorem d_R_look_62 : decode c_R_look 62 = .ok (.sipush 300, 3) := by decide +kernel
theorem d_R_look_65 : decode c_R_look 65 = .ok (.isub, 1) := by decide +kernel
theorem d_R_look_66 : decode c_R_look 66 = .ok (.bipush 10, 2) := by decide +kernel
theorem d_R_look_68 : decode c_R_look 68 = .ok (.iadd, 1) := by decide +kernel
theorem d_R_look_69 : decode c_R_look 69 = .ok (.ishl, 1) := by decide +kernel
theorem d_R_look_70 : decode c_R_look 70 = .ok (.iastore, 1) := by decide +kernel
theorem d_R_look_71 : decode c_R_look 71 = .ok (.goto 82, 3) := by decide +kernel
theorem d_R_look_74 : decode c_R_look 74 = .ok (.iload 4, 2) := by decide +kernel
theorem d_R_look_76 : decode c_R_look 76 = .ok (.sipush 200, 3) := by decide +kernel
theorem d_R_look_79 : decode c_R_look 79 = .ok (.if_icmp .lt 25, 3) := by decide +kernel
theorem d_R_look_82 : decode c_R_look 82 = .ok (.aload_n 0, 1) := by decide +kernel
theorem d_R_look_83 : decode c_R_look 83 = .ok (.getfield 54, 3) := by decide +kernel
theorem d_R_look_86 : decode c_R_look 86 = .ok (.iload_n 3, 1) := by decide +kernel
theorem d_R_look_87 : decode c_R_look 87 = .ok (.lconst 1, 1) := by decide +kernel
theorem d_R_look_88 : decode c_R_look 88 = .ok (.bipush 8, 2) := by decide +kernel
theorem d_R_look_90 : decode c_R_look 90 = .ok (.iload 4, 2) := by decide +kernel
theorem d_R_look_92 : decode c_R_look 92 = .ok (.sipush 200, 3) := by decide +kernel
theorem d_R_look_95 : decode c_R_look 95 = .ok (.isub, 1) := by decide +kernel
theorem d_R_look_96 : decode c_R_look 96 = .ok (.imul, 1) := by decide +kernel
theorem d_R_look_97 : decode c_R_look 97 = .ok (.iload_n 2, 1) := by decide +kernel
theorem d_R_look_98 : decode c_R_look 98 = .ok (.iadd, 1) := by decide +kernel
theorem d_R_look_99 : decode c_R_look 99 = .ok (.lshl, 1) := by decide +kernel
theorem d_R_look_100 : decode c_R_look 100 = .ok (.lastore, 1) := by decide +kernel
theorem d_R_look_101 : decode c_R_look 101 = .ok (.goto 52, 3) := by decide +kernel
theorem d_R_look_104 : decode c_R_look 104 = .ok (.bipush 8, 2) := by decide +kernel
theorem d_R_look_106 : decode c_R_look 106 = .ok (.iconst 3, 1) := by decide +kernel
theorem d_R_look_107 : decode c_R_look 107 = .ok (.iload 4, 2) := by decide +kernel
theorem d_R_look_109 : decode c_R_look 109 = .ok (.bipush 100, 2) := by decide +kernel
theorem d_R_look_111 : decode c_R_look 111 = .ok (.isub, 1) := by decide +kernel
theorem d_R_look_112 : decode c_R_look 112 = .ok (.bipush 10, 2) := by decide +kernel
theorem d_R_look_114 : decode c_R_look 114 = .ok (.idiv, 1) := by decide +kernel
theorem d_R_look_115 : decode c_R_look 115 = .ok (.imul, 1) := by decide +kernel
theorem d_R_look_116 : decode c_R_look 116 = .ok (.iload 4, 2) := by decide +kernel
theorem d_R_look_118 : decode c_R_look 118 = .ok (.bipush 10, 2) := by decide +kernel
theorem d_R_look_120 : decode c_R_look 120 = .ok (.irem, 1) := by decide +kernel
theorem d_R_look_121 : decode c_R_look 121 = .ok (.iadd, 1) := by decide +kernel
theorem d_R_look_122 : decode c_R_look 122 = .ok (.imul, 1) := by decide +kernel
theorem d_R_look_123 : decode c_R_look 123 = .ok (.iload_n 2, 1) := by decide +kernel
theorem d_R_look_124 : decode c_R_look 124 = .ok (.iadd, 1) := by decide +kernel
theorem d_R_look_125 : decode c_R_look 125 = .ok (.istore 5, 2) := by decide +kernel
theorem d_R_look_127 : decode c_R_look 127 = .ok (.aload_n 0, 1) := by decide +kernel
theorem d_R_look_128 : decode c_R_look 128 = .ok (.getfield 51, 3) := by decide +kernel
theorem d_R_look_131 : decode c_R_look 131 = .ok (.iload_n 3, 1) := by decide +kernel
theorem d_R_look_132 : decode c_R_look 132 = .ok (.aload_n 0, 1) := by decide +kernel
theorem d_R_look_133 : decode c_R_look 133 = .ok (.getfield 41, 3) := by decide +kernel
theorem d_R_look_136 : decode c_R_look 136 = .ok (.iload 5, 2) := by decide +kernel
theorem d_R_look_138 : decode c_R_look 138 = .ok (.iaload, 1) := by decide +kernel
theorem d_R_look_139 : decode c_R_look 139 = .ok (.iastore, 1) := by decide +kernel
theorem d_R_look_140 : decode c_R_look 140 = .ok (.aload_n 0, 1) := by decide +kernel
theorem d_R_look_141 : decode c_R_look 141 = .ok (.getfield 54, 3) := by decide +kernel
theorem d_R_look_144 : decode c_R_look 144 = .ok (.iload_n 3, 1) := by decide +kernel
theorem d_R_look_145 : decode c_R_look 145 = .ok (.aload_n 0, 1) := by decide +kernel
theorem d_R_look_146 : decode c_R_look 146 = .ok (.getfield 44, 3) := by decide +kernel
theorem d_R_look_149 : decode c_R_look 149 = .ok (.iload 5, 2) := by decide +kernel
theorem d_R_look_151 : decode c_R_look 151 = .ok (.laload, 1) := by decide +kernel
theorem d_R_look_152 : decode c_R_look 152 = .ok (.lastore, 1) := by decide +kernel
theorem d_R_look_153 : decode c_R_look 153 = .ok (.return_, 1) := by decide +kernel
theorem d_R_applyPairs_0 : decode c_R_applyPairs 0 = .ok (.aload_n 0, 1) := by decide +kernel
theorem d_R_applyPairs_1 : decode c_R_applyPairs 1 = .ok (.getfield 117, 3) := by decide +kernel
theorem d_R_applyPairs_4 : decode c_R_applyPairs 4 = .ok (.iconst 1, 1) := by decide +kernel
theorem d_R_applyPairs_5 : decode c_R_applyPairs 5 = .ok (.if_icmp .ne 7, 3) := by decide +kernel
theorem d_R_applyPairs_8 : decode c_R_applyPairs 8 = .ok (.iload_n 3, 1) := by decide +kernel
theorem d_R_applyPairs_9 : decode c_R_applyPairs 9 = .ok (.goto 4, 3) := by decide +kernel
theorem d_R_applyPairs_12 : decode c_R_applyPairs 12 = .ok (.iconst 0, 1) := by decide +kernel
theorem d_R_applyPairs_13 : decode c_R_applyPairs 13 = .ok (.istore 6, 2) := by decide +kernel
theorem d_R_applyPairs_15 : decode c_R_applyPairs 15 = .ok (.iconst 0, 1) := by decide +kernel
theorem d_R_applyPairs_16 : decode c_R_applyPairs 16 = .ok (.istore 7, 2) := by decide +kernel
theorem d_R_applyPairs_18 : decode c_R_applyPairs 18 = .ok (.iload 7, 2) := by decide +kernel
theorem d_R_applyPairs_20 : decode c_R_applyPairs 20 = .ok (.aload_n 0, 1) := by decide +kernel
theorem d_R_applyPairs_21 : decode c_R_applyPairs 21 = .ok (.getfield 7, 3) := by decide +kernel
theorem d_R_applyPairs_24 : decode c_R_applyPairs 24 = .ok (.if_icmp .ge 118, 3) := by decide +kernel
theorem d_R_applyPairs_27 : decode c_R_applyPairs 27 = .ok (.iconst 0, 1) := by decide +kernel
theorem d_R_applyPairs_28 : decode c_R_applyPairs 28 = .ok (.istore 8, 2) := by decide +kernel
theorem d_R_applyPairs_30 : decode c_R_applyPairs 30 = .ok (.iload 8, 2) := by decide +kernel
theorem d_R_applyPairs_32 : decode c_R_applyPairs 32 = .ok (.bipush 8, 2) := by decide +kernel
theorem d_R_applyPairs_34 : decode c_R_applyPairs 34 = .ok (.if_icmp .ge 102, 3) := by decide +kernel
theorem d_R_applyPairs_37 : decode c_R_applyPairs 37 = .ok (.lload_n 1, 1) := by decide +kernel
theorem d_R_applyPairs_38 : decode c_R_applyPairs 38 = .ok (.bipush 8, 2) := by decide +kernel
theorem d_R_applyPairs_40 : decode c_R_applyPairs 40 = .ok (.iload 7, 2) := by decide +kernel
theorem d_R_applyPairs_42 : decode c_R_applyPairs 42 = .ok (.imul, 1) := by decide +kernel
theorem d_R_applyPairs_43 : decode c_R_applyPairs 43 = .ok (.iload 8, 2) := by decide +kernel
theorem d_R_applyPairs_45 : decode c_R_applyPairs 45 = .ok (.iadd, 1) := by decide +kernel
theorem d_R_applyPairs_46 : decode c_R_applyPairs 46 = .ok (.lushr, 1) := by decide +kernel
theorem d_R_applyPairs_47 : decode c_R_applyPairs 47 = .ok (.lconst 1, 1) := by decide +kernel
theorem d_R_applyPairs_48 : decode c_R_applyPairs 48 = .ok (.land, 1) := by decide +kernel
theorem d_R_applyPairs_49 : decode c_R_applyPairs 49 = .ok (.lconst 1, 1) := by decide +kernel
theorem d_R_applyPairs_50 : decode c_R_applyPairs 50 = .ok (.lcmp, 1) := by decide +kernel
theorem d_R_applyPairs_51 : decode c_R_applyPairs 51 = .ok (.ifCond .ne 79, 3) := by decide +kernel
theorem d_R_applyPairs_54 : decode c_R_applyPairs 54 = .ok (.aload_n 0, 1) := by decide +kernel
theorem d_R_applyPairs_55 : decode c_R_applyPairs 55 = .ok (.getfield 17, 3) := by decide +kernel
theorem d_R_applyPairs_58 : decode c_R_applyPairs 58 = .ok (.iload 7, 2) := by decide +kernel
theorem d_R_applyPairs_60 : decode c_R_applyPairs 60 = .ok (.iaload, 1) := by decide +kernel
theorem d_R_applyPairs_61 : decode c_R_applyPairs 61 = .ok (.iload 4, 2) := by decide +kernel
theorem d_R_applyPairs_63 : decode c_R_applyPairs 63 = .ok (.if_icmp .ne 67, 3) := by decide +kernel
theorem d_R_applyPairs_66 : decode c_R_applyPairs 66 = .ok (.aload_n 0, 1) := by decide +kernel
theorem d_R_applyPairs_67 : decode c_R_applyPairs 67 = .ok (.iload 7, 2) := by decide +kernel
theorem d_R_applyPairs_69 : decode c_R_applyPairs 69 = .ok (.iload 8, 2) := by decide +kernel
theorem d_R_applyPairs_71 : decode c_R_applyPairs 71 = .ok (.iload_n 3, 1) := by decide +kernel
theorem d_R_applyPairs_72 : decode c_R_applyPairs 72 = .ok (.iload 6, 2) := by decide +kernel
theorem d_R_applyPairs_74 : decode c_R_applyPairs 74 = .ok (.invokevirtual 120, 3) := by decide +kernel
theorem d_R_applyPairs_77 : decode c_R_applyPairs 77 = .ok (.iconst 0, 1) := by decide +kernel
theorem d_R_applyPairs_78 : decode c_R_applyPairs 78 = .ok (.istore 9, 2) := by decide +kernel
theorem d_R_applyPairs_80 : decode c_R_applyPairs 80 = .ok (.iload 9, 2) := by decide +kernel
theorem d_R_applyPairs_82 : decode c_R_applyPairs 82 = .ok (.iload 4, 2) := by decide +kernel
theorem d_R_applyPairs_84 : decode c_R_applyPairs 84 = .ok (.if_icmp .ge 46, 3) := by decide +kernel
theorem d_R_applyPairs_87 : decode c_R_applyPairs 87 = .ok (.aload_n 0, 1) := by decide +kernel
theorem d_R_applyPairs_88 : decode c_R_applyPairs 88 = .ok (.bipush 8, 2) := by decide +kernel
theorem d_R_applyPairs_90 : decode c_R_applyPairs 90 = .ok (.iconst 3, 1) := by decide +kernel
theorem d_R_applyPairs_91 : decode c_R_applyPairs 91 = .ok (.iload 7, 2) := by decide +kernel
theorem d_R_applyPairs_93 : decode c_R_applyPairs 93 = .ok (.imul, 1) := by decide +kernel
theorem d_R_applyPairs_94 : decode c_R_applyPairs 94 = .ok (.iload 9, 2) := by decide +kernel
theorem d_R_applyPairs_96 : decode c_R_applyPairs 96 = .ok (.iadd, 1) := by decide +kernel
theorem d_R_applyPairs_97 : decode c_R_applyPairs 97 = .ok (.imul, 1) := by decide +kernel
theorem d_R_applyPairs_98 : decode c_R_applyPairs 98 = .ok (.iload 6, 2) := by decide +kernel
theorem d_R_applyPairs_100 : decode c_R_applyPairs 100 = .ok (.iadd, 1) := by decide +kernel
theorem d_R_applyPairs_101 : decode c_R_applyPairs 101 = .ok (.aload_n 0, 1) := by decide +kernel
theorem d_R_applyPairs_102 : decode c_R_applyPairs 102 = .ok (.getfield 51, 3) := by decide +kernel
theorem d_R_applyPairs_105 : decode c_R_applyPairs 105 = .ok (.iload 5, 2) := by decide +kernel
theorem d_R_applyPairs_107 : decode c_R_applyPairs 107 = .ok (.iload 9, 2) := by decide +kernel
theorem d_R_applyPairs_109 : decode c_R_applyPairs 109 = .ok (.iadd, 1) := by decide +kernel
theorem d_R_applyPairs_110 : decode c_R_applyPairs 110 = .ok (.iaload, 1) := by decide +kernel
theorem d_R_applyPairs_111 : decode c_R_applyPairs 111 = .ok (.aload_n 0, 1) := by decide +kernel
theorem d_R_applyPairs_112 : decode c_R_applyPairs 112 = .ok (.getfield 54, 3) := by decide +kernel
theorem d_R_applyPairs_115 : decode c_R_applyPairs 115 = .ok (.iload 5, 2) := by decide +kernel
theorem d_R_applyPairs_117 : decode c_R_applyPairs 117 = .ok (.iload 9, 2) := by decide +kernel
theorem d_R_applyPairs_119 : decode c_R_applyPairs 119 = .ok (.iadd, 1) := by decide +kernel
theorem d_R_applyPairs_120 : decode c_R_applyPairs 120 = .ok (.laload, 1) := by decide +kernel
theorem d_R_applyPairs_121 : decode c_R_applyPairs 121 = .ok (.invokevirtual 124, 3) := by decide +kernel
theorem d_R_applyPairs_124 : decode c_R_applyPairs 124 = .ok (.iinc 9 1, 3) := by decide +kernel
theorem d_R_applyPairs_127 : decode c_R_applyPairs 127 = .ok (.goto (-47), 3) := by decide +kernel
theorem d_R_applyPairs_130 : decode c_R_applyPairs 130 = .ok (.iinc 8 1, 3) := by decide +kernel
theorem d_R_applyPairs_133 : decode c_R_applyPairs 133 = .ok (.goto (-103), 3) := by decide +kernel
theorem d_R_applyPairs_136 : decode c_R_applyPairs 136 = .ok (.iinc 7 1, 3) := by decide +kernel
theorem d_R_applyPairs_139 : decode c_R_applyPairs 139 = .ok (.goto (-121), 3) := by decide +kernel
theorem d_R_applyPairs_142 : decode c_R_applyPairs 142 = .ok (.return_, 1) := by decide +kernel
theorem d_R_callPair_0 : decode c_R_callPair 0 = .ok (.lconst 1, 1) := by decide +kernel
theorem d_R_callPair_1 : decode c_R_callPair 1 = .ok (.bipush 8, 2) := by decide +kernel
theorem d_R_callPair_3 : decode c_R_callPair 3 = .ok (.iload_n 1, 1) := by decide +kernel
theorem d_R_callPair_4 : decode c_R_callPair 4 = .ok (.imul, 1) := by decide +kernel
theorem d_R_callPair_5 : decode c_R_callPair 5 = .ok (.iload 4, 2) := by decide +kernel
theorem d_R_callPair_7 : decode c_R_callPair 7 = .ok (.iadd, 1) := by decide +kernel
theorem d_R_callPair_8 : decode c_R_callPair 8 = .ok (.lshl, 1) := by decide +kernel
theorem d_R_callPair_9 : decode c_R_callPair 9 = .ok (.lstore 5, 2) := by decide +kernel
theorem d_R_callPair_11 : decode c_R_callPair 11 = .ok (.aload_n 0, 1) := by decide +kernel
theorem d_R_callPair_12 : decode c_R_callPair 12 = .ok (.aload_n 0, 1) := by decide +kernel
theorem d_R_callPair_13 : decode c_R_callPair 13 = .ok (.getfield 114, 3) := by decide +kernel
theorem d_R_callPair_16 : decode c_R_callPair 16 = .ok (.ifCond .ne 28, 3) := by decide +kernel
theorem d_R_callPair_19 : decode c_R_callPair 19 = .ok (.aload_n 0, 1) := by decide +kernel
theorem d_R_callPair_20 : decode c_R_callPair 20 = .ok (.getfield 128, 3) := by decide +kernel
theorem d_R_callPair_23 : decode c_R_callPair 23 = .ok (.lload 5, 2) := by decide +kernel
theorem d_R_callPair_25 : decode c_R_callPair 25 = .ok (.land, 1) := by decide +kernel
theorem d_R_callPair_26 : decode c_R_callPair 26 = .ok (.lconst 0, 1) := by decide +kernel
theorem d_R_callPair_27 : decode c_R_callPair 27 = .ok (.lcmp, 1) := by decide +kernel
theorem d_R_callPair_28 : decode c_R_callPair 28 = .ok (.ifCond .eq 16, 3) := by decide +kernel
theorem d_R_callPair_31 : decode c_R_callPair 31 = .ok (.aload_n 0, 1) := by decide +kernel
theorem d_R_callPair_32 : decode c_R_callPair 32 = .ok (.getfield 48, 3) := by decide +kernel
theorem d_R_callPair_35 : decode c_R_callPair 35 = .ok (.iload_n 3, 1) := by decide +kernel
theorem d_R_callPair_36 : decode c_R_callPair 36 = .ok (.iaload, 1) := by decide +kernel
theorem d_R_callPair_37 : decode c_R_callPair 37 = .ok (.iload_n 1, 1) := by decide +kernel
theorem d_R_callPair_38 : decode c_R_callPair 38 = .ok (.ishr, 1) := by decide +kernel
theorem d_R_callPair_39 : decode c_R_callPair 39 = .ok (.iconst 1, 1) := by decide +kernel
theorem d_R_callPair_40 : decode c_R_callPair 40 = .ok (.iand, 1) := by decide +kernel
theorem d_R_callPair_41 : decode c_R_callPair 41 = .ok (.ifCond .ne 7, 3) := by decide +kernel
theorem d_R_callPair_44 : decode c_R_callPair 44 = .ok (.iconst 1, 1) := by decide +kernel
theorem d_R_callPair_45 : decode c_R_callPair 45 = .ok (.goto 4, 3) := by decide +kernel
theorem d_R_callPair_48 : decode c_R_callPair 48 = .ok (.iconst 0, 1) := by decide +kernel
theorem d_R_callPair_49 : decode c_R_callPair 49 = .ok (.putfield 114, 3) := by decide +kernel
theorem d_R_callPair_52 : decode c_R_callPair 52 = .ok (.aload_n 0, 1) := by decide +kernel
theorem d_R_callPair_53 : decode c_R_callPair 53 = .ok (.aload_n 0, 1) := by decide +kernel
theorem d_R_callPair_54 : decode c_R_callPair 54 = .ok (.getfield 128, 3) := by decide +kernel
theorem d_R_callPair_57 : decode c_R_callPair 57 = .ok (.lload 5, 2) := by decide +kernel
theorem d_R_callPair_59 : decode c_R_callPair 59 = .ok (.lor, 1) := by decide +kernel
theorem d_R_callPair_60 : decode c_R_callPair 60 = .ok (.putfield 128, 3) := by decide +kernel
theorem d_R_callPair_63 : decode c_R_callPair 63 = .ok (.aload_n 0, 1) := by decide +kernel
theorem d_R_callPair_64 : decode c_R_callPair 64 = .ok (.getfield 48, 3) := by decide +kernel
theorem d_R_callPair_67 : decode c_R_callPair 67 = .ok (.iload_n 3, 1) := by decide +kernel
theorem d_R_callPair_68 : decode c_R_callPair 68 = .ok (.aload_n 0, 1) := by decide +kernel
theorem d_R_callPair_69 : decode c_R_callPair 69 = .ok (.getfield 48, 3) := by decide +kernel
theorem d_R_callPair_72 : decode c_R_callPair 72 = .ok (.iload_n 3, 1) := by decide +kernel
theorem d_R_callPair_73 : decode c_R_callPair 73 = .ok (.iaload, 1) := by decide +kernel
theorem d_R_callPair_74 : decode c_R_callPair 74 = .ok (.iconst 1, 1) := by decide +kernel
theorem d_R_callPair_75 : decode c_R_callPair 75 = .ok (.iload_n 1, 1) := by decide +kernel
theorem d_R_callPair_76 : decode c_R_callPair 76 = .ok (.ishl, 1) := by decide +kernel
theorem d_R_callPair_77 : decode c_R_callPair 77 = .ok (.ior, 1) := by decide +kernel
theorem d_R_callPair_78 : decode c_R_callPair 78 = .ok (.iastore, 1) := by decide +kernel
theorem d_R_callPair_79 : decode c_R_callPair 79 = .ok (.aload_n 0, 1) := by decide +kernel
theorem d_R_callPair_80 : decode c_R_callPair 80 = .ok (.getfield 13, 3) := by decide +kernel
theorem d_R_callPair_83 : decode c_R_callPair 83 = .ok (.iload_n 1, 1) := by decide +kernel
theorem d_R_callPair_84 : decode c_R_callPair 84 = .ok (.iaload, 1) := by decide +kernel
theorem d_R_callPair_85 : decode c_R_callPair 85 = .ok (.istore 7, 2) := by decide +kernel
theorem d_R_callPair_87 : decode c_R_callPair 87 = .ok (.iload 7, 2) := by decide +kernel
theorem d_R_callPair_89 : decode c_R_callPair 89 = .ok (.ifCond .lt 75, 3) := by decide +kernel
theorem d_R_callPair_92 : decode c_R_callPair 92 = .ok (.iconst 0, 1) := by decide +kernel
theorem d_R_callPair_93 : decode c_R_callPair 93 = .ok (.istore 8, 2) := by decide +kernel
theorem d_R_callPair_95 : decode c_R_callPair 95 = .ok (.iload 8, 2) := by decide +kernel
theorem d_R_callPair_97 : decode c_R_callPair 97 = .ok (.aload_n 0, 1) := by decide +kernel
theorem d_R_callPair_98 : decode c_R_callPair 98 = .ok (.getfield 17, 3) := by decide +kernel
theorem d_R_callPair_101 : decode c_R_callPair 101 = .ok (.iload 7, 2) := by decide +kernel
theorem d_R_callPair_103 : decode c_R_callPair 103 = .ok (.iaload, 1) := by decide +kernel
theorem d_R_callPair_104 : decode c_R_callPair 104 = .ok (.if_icmp .ge 48, 3) := by decide +kernel
theorem d_R_callPair_107 : decode c_R_callPair 107 = .ok (.bipush 8, 2) := by decide +kernel
theorem d_R_callPair_109 : decode c_R_callPair 109 = .ok (.iconst 3, 1) := by decide +kernel
theorem d_R_callPair_110 : decode c_R_callPair 110 = .ok (.iload 7, 2) := by decide +kernel
theorem d_R_callPair_112 : decode c_R_callPair 112 = .ok (.imul, 1) := by decide +kernel
theorem d_R_callPair_113 : decode c_R_callPair 113 = .ok (.iload 8, 2) := by decide +kernel
theorem d_R_callPair_115 : decode c_R_callPair 115 = .ok (.iadd, 1) := by decide +kernel
theorem d_R_callPair_116 : decode c_R_callPair 116 = .ok (.imul, 1) := by decide +kernel
theorem d_R_callPair_117 : decode c_R_callPair 117 = .ok (.istore 9, 2) := by decide +kernel
theorem d_R_callPair_119 : decode c_R_callPair 119 = .ok (.aload_n 0, 1) := by decide +kernel
theorem d_R_callPair_120 : decode c_R_callPair 120 = .ok (.iload 9, 2) := by decide +kernel
theorem d_R_callPair_122 : decode c_R_callPair 122 = .ok (.iload 4, 2) := by decide +kernel
theorem d_R_callPair_124 : decode c_R_callPair 124 = .ok (.iadd, 1) := by decide +kernel
theorem d_R_callPair_125 : decode c_R_callPair 125 = .ok (.aload_n 0, 1) := by decide +kernel
theorem d_R_callPair_126 : decode c_R_callPair 126 = .ok (.getfield 41, 3) := by decide +kernel
theorem d_R_callPair_129 : decode c_R_callPair 129 = .ok (.iload 9, 2) := by decide +kernel
theorem d_R_callPair_131 : decode c_R_callPair 131 = .ok (.iload_n 2, 1) := by decide +kernel
theorem d_R_callPair_132 : decode c_R_callPair 132 = .ok (.iadd, 1) := by decide +kernel
theorem d_R_callPair_133 : decode c_R_callPair 133 = .ok (.iaload, 1) := by decide +kernel
theorem d_R_callPair_134 : decode c_R_callPair 134 = .ok (.aload_n 0, 1) := by decide +kernel
theorem d_R_callPair_135 : decode c_R_callPair 135 = .ok (.getfield 44, 3) := by decide +kernel
theorem d_R_callPair_138 : decode c_R_callPair 138 = .ok (.iload 9, 2) := by decide +kernel
theorem d_R_callPair_140 : decode c_R_callPair 140 = .ok (.iload_n 2, 1) := by decide +kernel
theorem d_R_callPair_141 : decode c_R_callPair 141 = .ok (.iadd, 1) := by decide +kernel
theorem d_R_callPair_142 : decode c_R_callPair 142 = .ok (.laload, 1) := by decide +kernel
theorem d_R_callPair_143 : decode c_R_callPair 143 = .ok (.invokevirtual 124, 3) := by decide +kernel
theorem d_R_callPair_146 : decode c_R_callPair 146 = .ok (.iinc 8 1, 3) := by decide +kernel
theorem d_R_callPair_149 : decode c_R_callPair 149 = .ok (.goto (-54), 3) := by decide +kernel
theorem d_R_callPair_152 : decode c_R_callPair 152 = .ok (.aload_n 0, 1) := by decide +kernel
theorem d_R_callPair_153 : decode c_R_callPair 153 = .ok (.getfield 13, 3) := by decide +kernel
theorem d_R_callPair_156 : decode c_R_callPair 156 = .ok (.iload 7, 2) := by decide +kernel
theorem d_R_callPair_158 : decode c_R_callPair 158 = .ok (.iaload, 1) := by decide +kernel
theorem d_R_callPair_159 : decode c_R_callPair 159 = .ok (.istore 7, 2) := by decide +kernel
theorem d_R_callPair_161 : decode c_R_callPair 161 = .ok (.goto (-74), 3) := by decide +kernel
theorem d_R_callPair_164 : decode c_R_callPair 164 = .ok (.return_, 1) := by decide +kernel
theorem d_R_grow_0 : decode c_R_grow 0 = .ok (.iload_n 2, 1) := by decide +kernel
theorem d_R_grow_1 : decode c_R_grow 1 = .ok (.aload_n 0, 1) := by decide +kernel
theorem d_R_grow_2 : decode c_R_grow 2 = .ok (.getfield 41, 3) := by decide +kernel
theorem d_R_grow_5 : decode c_R_grow 5 = .ok (.iload_n 1, 1) := by decide +kernel
theorem d_R_grow_6 : decode c_R_grow 6 = .ok (.iaload, 1) := by decide +kernel
theorem d_R_grow_7 : decode c_R_grow 7 = .ok (.iconst (-1), 1) := by decide +kernel
theorem d_R_grow_8 : decode c_R_grow 8 = .ok (.ixor, 1) := by decide +kernel
theorem d_R_grow_9 : decode c_R_grow 9 = .ok (.iand, 1) := by decide +kernel
theorem d_R_grow_10 : decode c_R_grow 10 = .ok (.ifCond .ne 20, 3) := by decide +kernel
theorem d_R_grow_13 : decode c_R_grow 13 = .ok (.lload_n 3, 1) := by decide +kernel
theorem d_R_grow_14 : decode c_R_grow 14 = .ok (.aload_n 0, 1) := by decide +kernel
theorem d_R_grow_15 : decode c_R_grow 15 = .ok (.getfield 44, 3) := by decide +kernel
theorem d_R_grow_18 : decode c_R_grow 18 = .ok (.iload_n 1, 1) := by decide +kernel
theorem d_R_grow_19 : decode c_R_grow 19 = .ok (.laload, 1) := by decide +kernel
theorem d_R_grow_20 : decode c_R_grow 20 = .ok (.ldc2_w 112, 3) := by decide +kernel
theorem d_R_grow_23 : decode c_R_grow 23 = .ok (.lxor, 1) := by decide +kernel
theorem d_R_grow_24 : decode c_R_grow 24 = .ok (.land, 1) := by decide +kernel
theorem d_R_grow_25 : decode c_R_grow 25 = .ok (.lconst 0, 1) := by decide +kernel
theorem d_R_grow_26 : decode c_R_grow 26 = .ok (.lcmp, 1) := by decide +kernel
theorem d_R_grow_27 : decode c_R_grow 27 = .ok (.ifCond .eq 36, 3) := by decide +kernel
theorem d_R_grow_30 : decode c_R_grow 30 = .ok (.aload_n 0, 1) := by decide +kernel
theorem d_R_grow_31 : decode c_R_grow 31 = .ok (.getfield 41, 3) := by decide +kernel
theorem d_R_grow_34 : decode c_R_grow 34 = .ok (.iload_n 1, 1) := by decide +kernel
theorem d_R_grow_35 : decode c_R_grow 35 = .ok (.aload_n 0, 1) := by decide +kernel
theorem d_R_grow_36 : decode c_R_grow 36 = .ok (.getfield 41, 3) := by decide +kernel
theorem d_R_grow_39 : decode c_R_grow 39 = .ok (.iload_n 1, 1) := by decide +kernel
theorem d_R_grow_40 : decode c_R_grow 40 = .ok (.iaload, 1) := by decide +kernel
theorem d_R_grow_41 : decode c_R_grow 41 = .ok (.iload_n 2, 1) := by decide +kernel
theorem d_R_grow_42 : decode c_R_grow 42 = .ok (.ior, 1) := by decide +kernel
theorem d_R_grow_43 : decode c_R_grow 43 = .ok (.iastore, 1) := by decide +kernel
theorem d_R_grow_44 : decode c_R_grow 44 = .ok (.aload_n 0, 1) := by decide +kernel
theorem d_R_grow_45 : decode c_R_grow 45 = .ok (.getfield 44, 3) := by decide +kernel
theorem d_R_grow_48 : decode c_R_grow 48 = .ok (.iload_n 1, 1) := by decide +kernel
theorem d_R_grow_49 : decode c_R_grow 49 = .ok (.aload_n 0, 1) := by decide +kernel
theorem d_R_grow_50 : decode c_R_grow 50 = .ok (.getfield 44, 3) := by decide +kernel
theorem d_R_grow_53 : decode c_R_grow 53 = .ok (.iload_n 1, 1) := by decide +kernel
theorem d_R_grow_54 : decode c_R_grow 54 = .ok (.laload, 1) := by decide +kernel
theorem d_R_grow_55 : decode c_R_grow 55 = .ok (.lload_n 3, 1) := by decide +kernel
theorem d_R_grow_56 : decode c_R_grow 56 = .ok (.lor, 1) := by decide +kernel
theorem d_R_grow_57 : decode c_R_grow 57 = .ok (.lastore, 1) := by decide +kernel
theorem d_R_grow_58 : decode c_R_grow 58 = .ok (.aload_n 0, 1) := by decide +kernel
theorem d_R_grow_59 : decode c_R_grow 59 = .ok (.iconst 1, 1) := by decide +kernel
theorem d_R_grow_60 : decode c_R_grow 60 = .ok (.putfield 114, 3) := by decide +kernel
theorem d_R_grow_63 : decode c_R_grow 63 = .ok (.return_, 1) := by decide +kernel
theorem d_R_answer_0 : decode c_R_answer 0 = .ok (.aload_n 0, 1) := by decide +kernel
theorem d_R_answer_1 : decode c_R_answer 1 = .ok (.getfield 51, 3) := by decide +kernel
theorem d_R_answer_4 : decode c_R_answer 4 = .ok (.iload_n 1, 1) := by decide +kernel
theorem d_R_answer_5 : decode c_R_answer 5 = .ok (.iaload, 1) := by decide +kernel
theorem d_R_answer_6 : decode c_R_answer 6 = .ok (.aload_n 0, 1) := by decide +kernel
theorem d_R_answer_7 : decode c_R_answer 7 = .ok (.getfield 54, 3) := by decide +kernel
theorem d_R_answer_10 : decode c_R_answer 10 = .ok (.iload_n 1, 1) := by decide +kernel
theorem d_R_answer_11 : decode c_R_answer 11 = .ok (.laload, 1) := by decide +kernel
theorem d_R_answer_12 : decode c_R_answer 12 = .ok (.lconst 0, 1) := by decide +kernel
theorem d_R_answer_13 : decode c_R_answer 13 = .ok (.lcmp, 1) := by decide +kernel
theorem d_R_answer_14 : decode c_R_answer 14 = .ok (.ifCond .eq 9, 3) := by decide +kernel
theorem d_R_answer_17 : decode c_R_answer 17 = .ok (.sipush 8192, 3) := by decide +kernel
theorem d_R_answer_20 : decode c_R_answer 20 = .ok (.goto 4, 3) := by decide +kernel
theorem d_R_answer_23 : decode c_R_answer 23 = .ok (.iconst 0, 1) := by decide +kernel
theorem d_R_answer_24 : decode c_R_answer 24 = .ok (.ior, 1) := by decide +kernel
theorem d_R_answer_25 : decode c_R_answer 25 = .ok (.istore_n 2, 1) := by decide +kernel
theorem d_R_answer_26 : decode c_R_answer 26 = .ok (.aload_n 0, 1) := by decide +kernel
theorem d_R_answer_27 : decode c_R_answer 27 = .ok (.aload_n 0, 1) := by decide +kernel
theorem d_R_answer_28 : decode c_R_answer 28 = .ok (.getfield 114, 3) := by decide +kernel
theorem d_R_answer_31 : decode c_R_answer 31 = .ok (.ifCond .ne 14, 3) := by decide +kernel
theorem d_R_answer_34 : decode c_R_answer 34 = .ok (.iload_n 2, 1) := by decide +kernel
theorem d_R_answer_35 : decode c_R_answer 35 = .ok (.aload_n 0, 1) := by decide +kernel
theorem d_R_answer_36 : decode c_R_answer 36 = .ok (.getfield 132, 3) := by decide +kernel
theorem d_R_answer_39 : decode c_R_answer 39 = .ok (.iconst (-1), 1) := by decide +kernel
theorem d_R_answer_40 : decode c_R_answer 40 = .ok (.ixor, 1) := by decide +kernel
theorem d_R_answer_41 : decode c_R_answer 41 = .ok (.iand, 1) := by decide +kernel
theorem d_R_answer_42 : decode c_R_answer 42 = .ok (.ifCond .eq 7, 3) := by decide +kernel
theorem d_R_answer_45 : decode c_R_answer 45 = .ok (.iconst 1, 1) := by decide +kernel
theorem d_R_answer_46 : decode c_R_answer 46 = .ok (.goto 4, 3) := by decide +kernel
theorem d_R_answer_49 : decode c_R_answer 49 = .ok (.iconst 0, 1) := by decide +kernel
theorem d_R_answer_50 : decode c_R_answer 50 = .ok (.putfield 114, 3) := by decide +kernel
theorem d_R_answer_53 : decode c_R_answer 53 = .ok (.aload_n 0, 1) := by decide +kernel
theorem d_R_answer_54 : decode c_R_answer 54 = .ok (.aload_n 0, 1) := by decide +kernel
theorem d_R_answer_55 : decode c_R_answer 55 = .ok (.getfield 132, 3) := by decide +kernel
theorem d_R_answer_58 : decode c_R_answer 58 = .ok (.iload_n 2, 1) := by decide +kernel
theorem d_R_answer_59 : decode c_R_answer 59 = .ok (.ior, 1) := by decide +kernel
theorem d_R_answer_60 : decode c_R_answer 60 = .ok (.putfield 132, 3) := by decide +kernel
theorem d_R_answer_63 : decode c_R_answer 63 = .ok (.return_, 1) := by decide +kernel
theorem d_R_sums_0 : decode c_R_sums 0 = .ok (.iconst 0, 1) := by decide +kernel
theorem d_R_sums_1 : decode c_R_sums 1 = .ok (.istore_n 2, 1) := by decide +kernel
theorem d_R_sums_2 : decode c_R_sums 2 = .ok (.iconst 0, 1) := by decide +kernel
theorem d_R_sums_3 : decode c_R_sums 3 = .ok (.istore_n 3, 1) := by decide +kernel
theorem d_R_sums_4 : decode c_R_sums 4 = .ok (.iload_n 3, 1) := by decide +kernel
theorem d_R_sums_5 : decode c_R_sums 5 = .ok (.bipush 10, 2) := by decide +kernel
theorem d_R_sums_7 : decode c_R_sums 7 = .ok (.if_icmp .ge 72, 3) := by decide +kernel
theorem d_R_sums_10 : decode c_R_sums 10 = .ok (.iconst 0, 1) := by decide +kernel
theorem d_R_sums_11 : decode c_R_sums 11 = .ok (.istore 4, 2) := by decide +kernel
theorem d_R_sums_13 : decode c_R_sums 13 = .ok (.iload 4, 2) := by decide +kernel
theorem d_R_sums_15 : decode c_R_sums 15 = .ok (.bipush 10, 2) := by decide +kernel
theorem d_R_sums_17 : decode c_R_sums 17 = .ok (.if_icmp .ge 56, 3) := by decide +kernel
theorem d_R_sums_20 : decode c_R_sums 20 = .ok (.iload_n 0, 1) := by decide +kernel
theorem d_R_sums_21 : decode c_R_sums 21 = .ok (.iload_n 3, 1) := by decide +kernel
theorem d_R_sums_22 : decode c_R_sums 22 = .ok (.ishr, 1) := by decide +kernel
theorem d_R_sums_23 : decode c_R_sums 23 = .ok (.iconst 1, 1) := by decide +kernel
theorem d_R_sums_24 : decode c_R_sums 24 = .ok (.iand, 1) := by decide +kernel
theorem d_R_sums_25 : decode c_R_sums 25 = .ok (.iconst 1, 1) := by decide +kernel
theorem d_R_sums_26 : decode c_R_sums 26 = .ok (.if_icmp .ne 17, 3) := by decide +kernel
theorem d_R_sums_29 : decode c_R_sums 29 = .ok (.iload_n 1, 1) := by decide +kernel
theorem d_R_sums_30 : decode c_R_sums 30 = .ok (.iload 4, 2) := by decide +kernel
theorem d_R_sums_32 : decode c_R_sums 32 = .ok (.ishr, 1) := by decide +kernel
theorem d_R_sums_33 : decode c_R_sums 33 = .ok (.iconst 1, 1) := by decide +kernel
theorem d_R_sums_34 : decode c_R_sums 34 = .ok (.iand, 1) := by decide +kernel
theorem d_R_sums_35 : decode c_R_sums 35 = .ok (.iconst 1, 1) := by decide +kernel
theorem d_R_sums_36 : decode c_R_sums 36 = .ok (.if_icmp .ne 7, 3) := by decide +kernel
theorem d_R_sums_39 : decode c_R_sums 39 = .ok (.iconst 1, 1) := by decide +kernel
theorem d_R_sums_40 : decode c_R_sums 40 = .ok (.goto 4, 3) := by decide +kernel
theorem d_R_sums_43 : decode c_R_sums 43 = .ok (.iconst 0, 1) := by decide +kernel
theorem d_R_sums_44 : decode c_R_sums 44 = .ok (.istore 5, 2) := by decide +kernel
theorem d_R_sums_46 : decode c_R_sums 46 = .ok (.iload 5, 2) := by decide +kernel
theorem d_R_sums_48 : decode c_R_sums 48 = .ok (.ifCond .eq 17, 3) := by decide +kernel
theorem d_R_sums_51 : decode c_R_sums 51 = .ok (.iload_n 2, 1) := by decide +kernel
theorem d_R_sums_52 : decode c_R_sums 52 = .ok (.iconst 1, 1) := by decide +kernel
theorem d_R_sums_53 : decode c_R_sums 53 = .ok (.iload_n 3, 1) := by decide +kernel
theorem d_R_sums_54 : decode c_R_sums 54 = .ok (.iload 4, 2) := by decide +kernel
theorem d_R_sums_56 : decode c_R_sums 56 = .ok (.iadd, 1) := by decide +kernel
theorem d_R_sums_57 : decode c_R_sums 57 = .ok (.bipush 10, 2) := by decide +kernel
theorem d_R_sums_59 : decode c_R_sums 59 = .ok (.irem, 1) := by decide +kernel
theorem d_R_sums_60 : decode c_R_sums 60 = .ok (.ishl, 1) := by decide +kernel
theorem d_R_sums_61 : decode c_R_sums 61 = .ok (.ior, 1) := by decide +kernel
theorem d_R_sums_62 : decode c_R_sums 62 = .ok (.goto 4, 3) := by decide +kernel
theorem d_R_sums_65 : decode c_R_sums 65 = .ok (.iload_n 2, 1) := by decide +kernel
theorem d_R_sums_66 : decode c_R_sums 66 = .ok (.istore_n 2, 1) := by decide +kernel
theorem d_R_sums_67 : decode c_R_sums 67 = .ok (.iinc 4 1, 3) := by decide +kernel
theorem d_R_sums_70 : decode c_R_sums 70 = .ok (.goto (-57), 3) := by decide +kernel
theorem d_R_sums_73 : decode c_R_sums 73 = .ok (.iinc 3 1, 3) := by decide +kernel
theorem d_R_sums_76 : decode c_R_sums 76 = .ok (.goto (-72), 3) := by decide +kernel
theorem d_R_sums_79 : decode c_R_sums 79 = .ok (.iload_n 2, 1) := by decide +kernel
theorem d_R_sums_80 : decode c_R_sums 80 = .ok (.ireturn, 1) := by decide +kernel
theorem d_R_flow_0 : decode c_R_flow 0 = .ok (.aload_n 0, 1) := by decide +kernel
theorem d_R_flow_1 : decode c_R_flow 1 = .ok (.getfield 60, 3) := by decide +kernel
theorem d_R_flow_4 : decode c_R_flow 4 = .ok (.ifCond .eq 11, 3) := by decide +kernel
theorem d_R_flow_7 : decode c_R_flow 7 = .ok (.aload_n 0, 1) := by decide +kernel
theorem d_R_flow_8 : decode c_R_flow 8 = .ok (.iload_n 1, 1) := by decide +kernel
theorem d_R_flow_9 : decode c_R_flow 9 = .ok (.invokevirtual 64, 3) := by decide +kernel
theorem d_R_flow_12 : decode c_R_flow 12 = .ok (.ifCond .ne 7, 3) := by decide +kernel
theorem d_R_flow_15 : decode c_R_flow 15 = .ok (.iconst (-1), 1) := by decide +kernel
theorem d_R_flow_16 : decode c_R_flow 16 = .ok (.goto 9, 3) := by decide +kernel
theorem d_R_flow_19 : decode c_R_flow 19 = .ok (.aload_n 0, 1) := by decide +kernel
theorem d_R_flow_20 : decode c_R_flow 20 = .ok (.getfield 48, 3) := by decide +kernel
theorem d_R_flow_23 : decode c_R_flow 23 = .ok (.iload_n 1, 1) := by decide +kernel
theorem d_R_flow_24 : decode c_R_flow 24 = .ok (.iaload, 1) := by decide +kernel
theorem d_R_flow_25 : decode c_R_flow 25 = .ok (.ireturn, 1) := by decide +kernel
theorem d_R_contours_0 : decode c_R_contours 0 = .ok (.aload_n 0, 1) := by decide +kernel
theorem d_R_contours_1 : decode c_R_contours 1 = .ok (.getfield 60, 3) := by decide +kernel
theorem d_R_contours_4 : decode c_R_contours 4 = .ok (.ifCond .eq 11, 3) := by decide +kernel
theorem d_R_contours_7 : decode c_R_contours 7 = .ok (.aload_n 0, 1) := by decide +kernel
theorem d_R_contours_8 : decode c_R_contours 8 = .ok (.iload_n 1, 1) := by decide +kernel
theorem d_R_contours_9 : decode c_R_contours 9 = .ok (.invokevirtual 64, 3) := by decide +kernel
theorem d_R_contours_12 : decode c_R_contours 12 = .ok (.ifCond .ne 7, 3) := by decide +kernel
theorem d_R_contours_15 : decode c_R_contours 15 = .ok (.iconst (-1), 1) := by decide +kernel
theorem d_R_contours_16 : decode c_R_contours 16 = .ok (.goto 17, 3) := by decide +kernel
theorem d_R_contours_19 : decode c_R_contours 19 = .ok (.aload_n 0, 1) := by decide +kernel
theorem d_R_contours_20 : decode c_R_contours 20 = .ok (.getfield 128, 3) := by decide +kernel
theorem d_R_contours_23 : decode c_R_contours 23 = .ok (.bipush 8, 2) := by decide +kernel
theorem d_R_contours_25 : decode c_R_contours 25 = .ok (.iload_n 1, 1) := by decide +kernel
theorem d_R_contours_26 : decode c_R_contours 26 = .ok (.imul, 1) := by decide +kernel
theorem d_R_contours_27 : decode c_R_contours 27 = .ok (.lushr, 1) := by decide +kernel
theorem d_R_contours_28 : decode c_R_contours 28 = .ok (.ldc2_w 153, 3) := by decide +kernel
theorem d_R_contours_31 : decode c_R_contours 31 = .ok (.land, 1) := by decide +kernel
theorem d_R_contours_32 : decode c_R_contours 32 = .ok (.l2i, 1) := by decide +kernel
theorem d_R_contours_33 : decode c_R_contours 33 = .ok (.ireturn, 1) := by decide +kernel
theorem d_R_constants_0 : decode c_R_constants 0 = .ok (.aload_n 0, 1) := by decide +kernel
theorem d_R_constants_1 : decode c_R_constants 1 = .ok (.iload_n 1, 1) := by decide +kernel
theorem d_R_constants_2 : decode c_R_constants 2 = .ok (.iload_n 2, 1) := by decide +kernel
theorem d_R_constants_3 : decode c_R_constants 3 = .ok (.invokevirtual 155, 3) := by decide +kernel
theorem d_R_constants_6 : decode c_R_constants 6 = .ok (.ifCond .ne 5, 3) := by decide +kernel
theorem d_R_constants_9 : decode c_R_constants 9 = .ok (.iconst (-1), 1) := by decide +kernel
theorem d_R_constants_10 : decode c_R_constants 10 = .ok (.ireturn, 1) := by decide +kernel
theorem d_R_constants_11 : decode c_R_constants 11 = .ok (.iconst 0, 1) := by decide +kernel
theorem d_R_constants_12 : decode c_R_constants 12 = .ok (.istore_n 3, 1) := by decide +kernel
theorem d_R_constants_13 : decode c_R_constants 13 = .ok (.iconst 0, 1) := by decide +kernel
theorem d_R_constants_14 : decode c_R_constants 14 = .ok (.istore 4, 2) := by decide +kernel
theorem d_R_constants_16 : decode c_R_constants 16 = .ok (.iload 4, 2) := by decide +kernel
theorem d_R_constants_18 : decode c_R_constants 18 = .ok (.bipush 8, 2) := by decide +kernel
theorem d_R_constants_20 : decode c_R_constants 20 = .ok (.if_icmp .ge 28, 3) := by decide +kernel
theorem d_R_constants_23 : decode c_R_constants 23 = .ok (.iload_n 3, 1) := by decide +kernel
theorem d_R_constants_24 : decode c_R_constants 24 = .ok (.aload_n 0, 1) := by decide +kernel
theorem d_R_constants_25 : decode c_R_constants 25 = .ok (.getfield 41, 3) := by decide +kernel
theorem d_R_constants_28 : decode c_R_constants 28 = .ok (.bipush 8, 2) := by decide +kernel
theorem d_R_constants_30 : decode c_R_constants 30 = .ok (.iconst 3, 1) := by decide +kernel
theorem d_R_constants_31 : decode c_R_constants 31 = .ok (.iload_n 1, 1) := by decide +kernel
theorem d_R_constants_32 : decode c_R_constants 32 = .ok (.imul, 1) := by decide +kernel
theorem d_R_constants_33 : decode c_R_constants 33 = .ok (.iload_n 2, 1) := by decide +kernel
theorem d_R_constants_34 : decode c_R_constants 34 = .ok (.iadd, 1) := by decide +kernel
theorem d_R_constants_35 : decode c_R_constants 35 = .ok (.imul, 1) := by decide +kernel
theorem d_R_constants_36 : decode c_R_constants 36 = .ok (.iload 4, 2) := by decide +kernel
theorem d_R_constants_38 : decode c_R_constants 38 = .ok (.iadd, 1) := by decide +kernel
theorem d_R_constants_39 : decode c_R_constants 39 = .ok (.iaload, 1) := by decide +kernel
theorem d_R_constants_40 : decode c_R_constants 40 = .ok (.ior, 1) := by decide +kernel
theorem d_R_constants_41 : decode c_R_constants 41 = .ok (.istore_n 3, 1) := by decide +kernel
theorem d_R_constants_42 : decode c_R_constants 42 = .ok (.iinc 4 1, 3) := by decide +kernel
theorem d_R_constants_45 : decode c_R_constants 45 = .ok (.goto (-29), 3) := by decide +kernel
theorem d_R_constants_48 : decode c_R_constants 48 = .ok (.iload_n 3, 1) := by decide +kernel
theorem d_R_constants_49 : decode c_R_constants 49 = .ok (.ireturn, 1) := by decide +kernel
theorem d_R_isParameter_0 : decode c_R_isParameter 0 = .ok (.aload_n 0, 1) := by decide +kernel
theorem d_R_isParameter_1 : decode c_R_isParameter 1 = .ok (.getfield 60, 3) := by decide +kernel
theorem d_R_isParameter_4 : decode c_R_isParameter 4 = .ok (.ifCond .eq 29, 3) := by decide +kernel
theorem d_R_isParameter_7 : decode c_R_isParameter 7 = .ok (.aload_n 0, 1) := by decide +kernel
theorem d_R_isParameter_8 : decode c_R_isParameter 8 = .ok (.iload_n 1, 1) := by decide +kernel
theorem d_R_isParameter_9 : decode c_R_isParameter 9 = .ok (.invokevirtual 64, 3) := by decide +kernel
theorem d_R_isParameter_12 : decode c_R_isParameter 12 = .ok (.ifCond .eq 21, 3) := by decide +kernel
theorem d_R_isParameter_15 : decode c_R_isParameter 15 = .ok (.iload_n 2, 1) := by decide +kernel
theorem d_R_isParameter_16 : decode c_R_isParameter 16 = .ok (.ifCond .lt 17, 3) := by decide +kernel
theorem d_R_isParameter_19 : decode c_R_isParameter 19 = .ok (.iload_n 2, 1) := by decide +kernel
theorem d_R_isParameter_20 : decode c_R_isParameter 20 = .ok (.aload_n 0, 1) := by decide +kernel
theorem d_R_isParameter_21 : decode c_R_isParameter 21 = .ok (.getfield 17, 3) := by decide +kernel
theorem d_R_isParameter_24 : decode c_R_isParameter 24 = .ok (.iload_n 1, 1) := by decide +kernel
theorem d_R_isParameter_25 : decode c_R_isParameter 25 = .ok (.iaload, 1) := by decide +kernel
theorem d_R_isParameter_26 : decode c_R_isParameter 26 = .ok (.if_icmp .ge 7, 3) := by decide +kernel
theorem d_R_isParameter_29 : decode c_R_isParameter 29 = .ok (.iconst 1, 1) := by decide +kernel
theorem d_R_isParameter_30 : decode c_R_isParameter 30 = .ok (.goto 4, 3) := by decide +kernel
theorem d_R_isParameter_33 : decode c_R_isParameter 33 = .ok (.iconst 0, 1) := by decide +kernel
theorem d_R_isParameter_34 : decode c_R_isParameter 34 = .ok (.ireturn, 1) := by decide +kernel
theorem d_R_closures_0 : decode c_R_closures 0 = .ok (.aload_n 0, 1) := by decide +kernel
theorem d_R_closures_1 : decode c_R_closures 1 = .ok (.iload_n 1, 1) := by decide +kernel
theorem d_R_closures_2 : decode c_R_closures 2 = .ok (.iload_n 2, 1) := by decide +kernel
theorem d_R_closures_3 : decode c_R_closures 3 = .ok (.invokevirtual 155, 3) := by decide +kernel
theorem d_R_closures_6 : decode c_R_closures 6 = .ok (.ifCond .ne 5, 3) := by decide +kernel
theorem d_R_closures_9 : decode c_R_closures 9 = .ok (.iconst (-1), 1) := by decide +kernel
theorem d_R_closures_10 : decode c_R_closures 10 = .ok (.ireturn, 1) := by decide +kernel
theorem d_R_closures_11 : decode c_R_closures 11 = .ok (.iconst 0, 1) := by decide +kernel
theorem d_R_closures_12 : decode c_R_closures 12 = .ok (.istore_n 3, 1) := by decide +kernel
theorem d_R_closures_13 : decode c_R_closures 13 = .ok (.iconst 0, 1) := by decide +kernel
theorem d_R_closures_14 : decode c_R_closures 14 = .ok (.istore 4, 2) := by decide +kernel
theorem d_R_closures_16 : decode c_R_closures 16 = .ok (.iload 4, 2) := by decide +kernel
theorem d_R_closures_18 : decode c_R_closures 18 = .ok (.bipush 8, 2) := by decide +kernel
theorem d_R_closures_20 : decode c_R_closures 20 = .ok (.if_icmp .ge 79, 3) := by decide +kernel
theorem d_R_closures_23 : decode c_R_closures 23 = .ok (.iconst 0, 1) := by decide +kernel
theorem d_R_closures_24 : decode c_R_closures 24 = .ok (.istore 5, 2) := by decide +kernel
theorem d_R_closures_26 : decode c_R_closures 26 = .ok (.iload 5, 2) := by decide +kernel
theorem d_R_closures_28 : decode c_R_closures 28 = .ok (.bipush 8, 2) := by decide +kernel
theorem d_R_closures_30 : decode c_R_closures 30 = .ok (.if_icmp .ge 63, 3) := by decide +kernel
theorem d_R_closures_33 : decode c_R_closures 33 = .ok (.aload_n 0, 1) := by decide +kernel
theorem d_R_closures_34 : decode c_R_closures 34 = .ok (.getfield 44, 3) := by decide +kernel
theorem d_R_closures_37 : decode c_R_closures 37 = .ok (.bipush 8, 2) := by decide +kernel
theorem d_R_closures_39 : decode c_R_closures 39 = .ok (.iconst 3, 1) := by decide +kernel
theorem d_R_closures_40 : decode c_R_closures 40 = .ok (.iload_n 1, 1) := by decide +kernel
theorem d_R_closures_41 : decode c_R_closures 41 = .ok (.imul, 1) := by decide +kernel
theorem d_R_closures_42 : decode c_R_closures 42 = .ok (.iload_n 2, 1) := by decide +kernel
theorem d_R_closures_43 : decode c_R_closures 43 = .ok (.iadd, 1) := by decide +kernel
theorem d_R_closures_44 : decode c_R_closures 44 = .ok (.imul, 1) := by decide +kernel
theorem d_R_closures_45 : decode c_R_closures 45 = .ok (.iload 4, 2) := by decide +kernel
theorem d_R_closures_47 : decode c_R_closures 47 = .ok (.iadd, 1) := by decide +kernel
theorem d_R_closures_48 : decode c_R_closures 48 = .ok (.laload, 1) := by decide +kernel
theorem d_R_closures_49 : decode c_R_closures 49 = .ok (.bipush 8, 2) := by decide +kernel
theorem d_R_closures_51 : decode c_R_closures 51 = .ok (.iload 5, 2) := by decide +kernel
theorem d_R_closures_53 : decode c_R_closures 53 = .ok (.imul, 1) := by decide +kernel
theorem d_R_closures_54 : decode c_R_closures 54 = .ok (.lushr, 1) := by decide +kernel
theorem d_R_closures_55 : decode c_R_closures 55 = .ok (.ldc2_w 153, 3) := by decide +kernel
theorem d_R_closures_58 : decode c_R_closures 58 = .ok (.land, 1) := by decide +kernel
theorem d_R_closures_59 : decode c_R_closures 59 = .ok (.lconst 0, 1) := by decide +kernel
theorem d_R_closures_60 : decode c_R_closures 60 = .ok (.lcmp, 1) := by decide +kernel
theorem d_R_closures_61 : decode c_R_closures 61 = .ok (.ifCond .eq 7, 3) := by decide +kernel
theorem d_R_closures_64 : decode c_R_closures 64 = .ok (.iconst 1, 1) := by decide +kernel
theorem d_R_closures_65 : decode c_R_closures 65 = .ok (.goto 4, 3) := by decide +kernel
theorem d_R_closures_68 : decode c_R_closures 68 = .ok (.iconst 0, 1) := by decide +kernel
theorem d_R_closures_69 : decode c_R_closures 69 = .ok (.istore 6, 2) := by decide +kernel
theorem d_R_closures_71 : decode c_R_closures 71 = .ok (.iload 6, 2) := by decide +kernel
theorem d_R_closures_73 : decode c_R_closures 73 = .ok (.ifCond .eq 12, 3) := by decide +kernel
theorem d_R_closures_76 : decode c_R_closures 76 = .ok (.iload_n 3, 1) := by decide +kernel
theorem d_R_closures_77 : decode c_R_closures 77 = .ok (.iconst 1, 1) := by decide +kernel
theorem d_R_closures_78 : decode c_R_closures 78 = .ok (.iload 5, 2) := by decide +kernel
theorem d_R_closures_80 : decode c_R_closures 80 = .ok (.ishl, 1) := by decide +kernel
theorem d_R_closures_81 : decode c_R_closures 81 = .ok (.ior, 1) := by decide +kernel
theorem d_R_closures_82 : decode c_R_closures 82 = .ok (.goto 4, 3) := by decide +kernel
theorem d_R_closures_85 : decode c_R_closures 85 = .ok (.iload_n 3, 1) := by decide +kernel
theorem d_R_closures_86 : decode c_R_closures 86 = .ok (.istore_n 3, 1) := by decide +kernel
theorem d_R_closures_87 : decode c_R_closures 87 = .ok (.iinc 5 1, 3) := by decide +kernel
theorem d_R_closures_90 : decode c_R_closures 90 = .ok (.goto (-64), 3) := by decide +kernel
theorem d_R_closures_93 : decode c_R_closures 93 = .ok (.iinc 4 1, 3) := by decide +kernel
theorem d_R_closures_96 : decode c_R_closures 96 = .ok (.goto (-80), 3) := by decide +kernel
theorem d_R_closures_99 : decode c_R_closures 99 = .ok (.iload_n 3, 1) := by decide +kernel
theorem d_R_closures_100 : decode c_R_closures 100 = .ok (.ireturn, 1) := by decide +kernel
theorem d_R_results_0 : decode c_R_results 0 = .ok (.aload_n 0, 1) := by decide +kernel
theorem d_R_results_1 : decode c_R_results 1 = .ok (.getfield 60, 3) := by decide +kernel
theorem d_R_results_4 : decode c_R_results 4 = .ok (.ifCond .eq 10, 3) := by decide +kernel
theorem d_R_results_7 : decode c_R_results 7 = .ok (.aload_n 0, 1) := by decide +kernel
theorem d_R_results_8 : decode c_R_results 8 = .ok (.getfield 132, 3) := by decide +kernel
theorem d_R_results_11 : decode c_R_results 11 = .ok (.goto 4, 3) := by decide +kernel
theorem d_R_results_14 : decode c_R_results 14 = .ok (.iconst (-1), 1) := by decide +kernel
theorem d_R_results_15 : decode c_R_results 15 = .ok (.ireturn, 1) := by decide +kernel
