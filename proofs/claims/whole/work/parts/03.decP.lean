theorem d_P_init_0 : decode c_P_init 0 = .ok (.aload_n 0, 1) := by decide +kernel
theorem d_P_init_1 : decode c_P_init 1 = .ok (.invokespecial 3, 3) := by decide +kernel
theorem d_P_init_4 : decode c_P_init 4 = .ok (.aload_n 0, 1) := by decide +kernel
theorem d_P_init_5 : decode c_P_init 5 = .ok (.bipush 8, 2) := by decide +kernel
theorem d_P_init_7 : decode c_P_init 7 = .ok (.newarray .int, 2) := by decide +kernel
theorem d_P_init_9 : decode c_P_init 9 = .ok (.putfield 9, 3) := by decide +kernel
theorem d_P_init_12 : decode c_P_init 12 = .ok (.aload_n 0, 1) := by decide +kernel
theorem d_P_init_13 : decode c_P_init 13 = .ok (.bipush 8, 2) := by decide +kernel
theorem d_P_init_15 : decode c_P_init 15 = .ok (.newarray .int, 2) := by decide +kernel
theorem d_P_init_17 : decode c_P_init 17 = .ok (.putfield 15, 3) := by decide +kernel
theorem d_P_init_20 : decode c_P_init 20 = .ok (.aload_n 0, 1) := by decide +kernel
theorem d_P_init_21 : decode c_P_init 21 = .ok (.bipush 8, 2) := by decide +kernel
theorem d_P_init_23 : decode c_P_init 23 = .ok (.newarray .int, 2) := by decide +kernel
theorem d_P_init_25 : decode c_P_init 25 = .ok (.putfield 18, 3) := by decide +kernel
theorem d_P_init_28 : decode c_P_init 28 = .ok (.aload_n 0, 1) := by decide +kernel
theorem d_P_init_29 : decode c_P_init 29 = .ok (.bipush 8, 2) := by decide +kernel
theorem d_P_init_31 : decode c_P_init 31 = .ok (.newarray .int, 2) := by decide +kernel
theorem d_P_init_33 : decode c_P_init 33 = .ok (.putfield 21, 3) := by decide +kernel
theorem d_P_init_36 : decode c_P_init 36 = .ok (.aload_n 0, 1) := by decide +kernel
theorem d_P_init_37 : decode c_P_init 37 = .ok (.bipush 32, 2) := by decide +kernel
theorem d_P_init_39 : decode c_P_init 39 = .ok (.newarray .int, 2) := by decide +kernel
theorem d_P_init_41 : decode c_P_init 41 = .ok (.putfield 24, 3) := by decide +kernel
theorem d_P_init_44 : decode c_P_init 44 = .ok (.aload_n 0, 1) := by decide +kernel
theorem d_P_init_45 : decode c_P_init 45 = .ok (.getfield 9, 3) := by decide +kernel
theorem d_P_init_48 : decode c_P_init 48 = .ok (.iconst 0, 1) := by decide +kernel
theorem d_P_init_49 : decode c_P_init 49 = .ok (.iconst (-1), 1) := by decide +kernel
theorem d_P_init_50 : decode c_P_init 50 = .ok (.iastore, 1) := by decide +kernel
theorem d_P_init_51 : decode c_P_init 51 = .ok (.aload_n 0, 1) := by decide +kernel
theorem d_P_init_52 : decode c_P_init 52 = .ok (.getfield 18, 3) := by decide +kernel
theorem d_P_init_55 : decode c_P_init 55 = .ok (.iconst 0, 1) := by decide +kernel
theorem d_P_init_56 : decode c_P_init 56 = .ok (.iconst 1, 1) := by decide +kernel
theorem d_P_init_57 : decode c_P_init 57 = .ok (.iastore, 1) := by decide +kernel
theorem d_P_init_58 : decode c_P_init 58 = .ok (.aload_n 0, 1) := by decide +kernel
theorem d_P_init_59 : decode c_P_init 59 = .ok (.iconst 1, 1) := by decide +kernel
theorem d_P_init_60 : decode c_P_init 60 = .ok (.putfield 27, 3) := by decide +kernel
theorem d_P_init_63 : decode c_P_init 63 = .ok (.return_, 1) := by decide +kernel
theorem d_P_makeLambda_0 : decode c_P_makeLambda 0 = .ok (.aload_n 0, 1) := by decide +kernel
theorem d_P_makeLambda_1 : decode c_P_makeLambda 1 = .ok (.iload_n 1, 1) := by decide +kernel
theorem d_P_makeLambda_2 : decode c_P_makeLambda 2 = .ok (.invokevirtual 31, 3) := by decide +kernel
theorem d_P_makeLambda_5 : decode c_P_makeLambda 5 = .ok (.ifCond .eq 21, 3) := by decide +kernel
theorem d_P_makeLambda_8 : decode c_P_makeLambda 8 = .ok (.iload_n 2, 1) := by decide +kernel
theorem d_P_makeLambda_9 : decode c_P_makeLambda 9 = .ok (.ifCond .lt 17, 3) := by decide +kernel
theorem d_P_makeLambda_12 : decode c_P_makeLambda 12 = .ok (.iload_n 2, 1) := by decide +kernel
theorem d_P_makeLambda_13 : decode c_P_makeLambda 13 = .ok (.iconst 3, 1) := by decide +kernel
theorem d_P_makeLambda_14 : decode c_P_makeLambda 14 = .ok (.if_icmp .gt 12, 3) := by decide +kernel
theorem d_P_makeLambda_17 : decode c_P_makeLambda 17 = .ok (.aload_n 0, 1) := by decide +kernel
theorem d_P_makeLambda_18 : decode c_P_makeLambda 18 = .ok (.getfield 27, 3) := by decide +kernel
theorem d_P_makeLambda_21 : decode c_P_makeLambda 21 = .ok (.bipush 8, 2) := by decide +kernel
theorem d_P_makeLambda_23 : decode c_P_makeLambda 23 = .ok (.if_icmp .ne 5, 3) := by decide +kernel
theorem d_P_makeLambda_26 : decode c_P_makeLambda 26 = .ok (.iconst (-1), 1) := by decide +kernel
theorem d_P_makeLambda_27 : decode c_P_makeLambda 27 = .ok (.ireturn, 1) := by decide +kernel
theorem d_P_makeLambda_28 : decode c_P_makeLambda 28 = .ok (.aload_n 0, 1) := by decide +kernel
theorem d_P_makeLambda_29 : decode c_P_makeLambda 29 = .ok (.getfield 27, 3) := by decide +kernel
theorem d_P_makeLambda_32 : decode c_P_makeLambda 32 = .ok (.istore_n 3, 1) := by decide +kernel
theorem d_P_makeLambda_33 : decode c_P_makeLambda 33 = .ok (.aload_n 0, 1) := by decide +kernel
theorem d_P_makeLambda_34 : decode c_P_makeLambda 34 = .ok (.getfield 9, 3) := by decide +kernel
theorem d_P_makeLambda_37 : decode c_P_makeLambda 37 = .ok (.iload_n 3, 1) := by decide +kernel
theorem d_P_makeLambda_38 : decode c_P_makeLambda 38 = .ok (.iload_n 1, 1) := by decide +kernel
theorem d_P_makeLambda_39 : decode c_P_makeLambda 39 = .ok (.iastore, 1) := by decide +kernel
theorem d_P_makeLambda_40 : decode c_P_makeLambda 40 = .ok (.aload_n 0, 1) := by decide +kernel
theorem d_P_makeLambda_41 : decode c_P_makeLambda 41 = .ok (.getfield 15, 3) := by decide +kernel
theorem d_P_makeLambda_44 : decode c_P_makeLambda 44 = .ok (.iload_n 3, 1) := by decide +kernel
theorem d_P_makeLambda_45 : decode c_P_makeLambda 45 = .ok (.iload_n 2, 1) := by decide +kernel
theorem d_P_makeLambda_46 : decode c_P_makeLambda 46 = .ok (.iastore, 1) := by decide +kernel
theorem d_P_makeLambda_47 : decode c_P_makeLambda 47 = .ok (.aload_n 0, 1) := by decide +kernel
theorem d_P_makeLambda_48 : decode c_P_makeLambda 48 = .ok (.getfield 18, 3) := by decide +kernel
theorem d_P_makeLambda_51 : decode c_P_makeLambda 51 = .ok (.iload_n 3, 1) := by decide +kernel
theorem d_P_makeLambda_52 : decode c_P_makeLambda 52 = .ok (.aload_n 0, 1) := by decide +kernel
theorem d_P_makeLambda_53 : decode c_P_makeLambda 53 = .ok (.getfield 18, 3) := by decide +kernel
theorem d_P_makeLambda_56 : decode c_P_makeLambda 56 = .ok (.iload_n 1, 1) := by decide +kernel
theorem d_P_makeLambda_57 : decode c_P_makeLambda 57 = .ok (.iaload, 1) := by decide +kernel
theorem d_P_makeLambda_58 : decode c_P_makeLambda 58 = .ok (.iconst 1, 1) := by decide +kernel
theorem d_P_makeLambda_59 : decode c_P_makeLambda 59 = .ok (.iload_n 3, 1) := by decide +kernel
theorem d_P_makeLambda_60 : decode c_P_makeLambda 60 = .ok (.ishl, 1) := by decide +kernel
theorem d_P_makeLambda_61 : decode c_P_makeLambda 61 = .ok (.ior, 1) := by decide +kernel
theorem d_P_makeLambda_62 : decode c_P_makeLambda 62 = .ok (.iastore, 1) := by decide +kernel
theorem d_P_makeLambda_63 : decode c_P_makeLambda 63 = .ok (.aload_n 0, 1) := by decide +kernel
theorem d_P_makeLambda_64 : decode c_P_makeLambda 64 = .ok (.getfield 21, 3) := by decide +kernel
theorem d_P_makeLambda_67 : decode c_P_makeLambda 67 = .ok (.iload_n 3, 1) := by decide +kernel
theorem d_P_makeLambda_68 : decode c_P_makeLambda 68 = .ok (.iconst 0, 1) := by decide +kernel
theorem d_P_makeLambda_69 : decode c_P_makeLambda 69 = .ok (.iastore, 1) := by decide +kernel
theorem d_P_makeLambda_70 : decode c_P_makeLambda 70 = .ok (.aload_n 0, 1) := by decide +kernel
theorem d_P_makeLambda_71 : decode c_P_makeLambda 71 = .ok (.dup, 1) := by decide +kernel
theorem d_P_makeLambda_72 : decode c_P_makeLambda 72 = .ok (.getfield 27, 3) := by decide +kernel
theorem d_P_makeLambda_75 : decode c_P_makeLambda 75 = .ok (.iconst 1, 1) := by decide +kernel
theorem d_P_makeLambda_76 : decode c_P_makeLambda 76 = .ok (.iadd, 1) := by decide +kernel
theorem d_P_makeLambda_77 : decode c_P_makeLambda 77 = .ok (.putfield 27, 3) := by decide +kernel
theorem d_P_makeLambda_80 : decode c_P_makeLambda 80 = .ok (.iload_n 3, 1) := by decide +kernel
theorem d_P_makeLambda_81 : decode c_P_makeLambda 81 = .ok (.ireturn, 1) := by decide +kernel
theorem d_P_hasLambda_0 : decode c_P_hasLambda 0 = .ok (.iload_n 1, 1) := by decide +kernel
theorem d_P_hasLambda_1 : decode c_P_hasLambda 1 = .ok (.ifCond .lt 15, 3) := by decide +kernel
theorem d_P_hasLambda_4 : decode c_P_hasLambda 4 = .ok (.iload_n 1, 1) := by decide +kernel
theorem d_P_hasLambda_5 : decode c_P_hasLambda 5 = .ok (.aload_n 0, 1) := by decide +kernel
theorem d_P_hasLambda_6 : decode c_P_hasLambda 6 = .ok (.getfield 27, 3) := by decide +kernel
theorem d_P_hasLambda_9 : decode c_P_hasLambda 9 = .ok (.if_icmp .ge 7, 3) := by decide +kernel
theorem d_P_hasLambda_12 : decode c_P_hasLambda 12 = .ok (.iconst 1, 1) := by decide +kernel
theorem d_P_hasLambda_13 : decode c_P_hasLambda 13 = .ok (.goto 4, 3) := by decide +kernel
theorem d_P_hasLambda_16 : decode c_P_hasLambda 16 = .ok (.iconst 0, 1) := by decide +kernel
theorem d_P_hasLambda_17 : decode c_P_hasLambda 17 = .ok (.ireturn, 1) := by decide +kernel
theorem d_P_append_0 : decode c_P_append 0 = .ok (.aload_n 0, 1) := by decide +kernel
theorem d_P_append_1 : decode c_P_append 1 = .ok (.iload_n 1, 1) := by decide +kernel
theorem d_P_append_2 : decode c_P_append 2 = .ok (.invokevirtual 31, 3) := by decide +kernel
theorem d_P_append_5 : decode c_P_append 5 = .ok (.ifCond .eq 22, 3) := by decide +kernel
theorem d_P_append_8 : decode c_P_append 8 = .ok (.aload_n 0, 1) := by decide +kernel
theorem d_P_append_9 : decode c_P_append 9 = .ok (.getfield 21, 3) := by decide +kernel
theorem d_P_append_12 : decode c_P_append 12 = .ok (.iload_n 1, 1) := by decide +kernel
theorem d_P_append_13 : decode c_P_append 13 = .ok (.iaload, 1) := by decide +kernel
theorem d_P_append_14 : decode c_P_append 14 = .ok (.iconst 4, 1) := by decide +kernel
theorem d_P_append_15 : decode c_P_append 15 = .ok (.if_icmp .eq 12, 3) := by decide +kernel
theorem d_P_append_18 : decode c_P_append 18 = .ok (.aload_n 0, 1) := by decide +kernel
theorem d_P_append_19 : decode c_P_append 19 = .ok (.iload_n 1, 1) := by decide +kernel
theorem d_P_append_20 : decode c_P_append 20 = .ok (.iload_n 2, 1) := by decide +kernel
theorem d_P_append_21 : decode c_P_append 21 = .ok (.invokevirtual 35, 3) := by decide +kernel
theorem d_P_append_24 : decode c_P_append 24 = .ok (.ifCond .ne 5, 3) := by decide +kernel
theorem d_P_append_27 : decode c_P_append 27 = .ok (.iconst 0, 1) := by decide +kernel
theorem d_P_append_28 : decode c_P_append 28 = .ok (.ireturn, 1) := by decide +kernel
theorem d_P_append_29 : decode c_P_append 29 = .ok (.aload_n 0, 1) := by decide +kernel
theorem d_P_append_30 : decode c_P_append 30 = .ok (.getfield 24, 3) := by decide +kernel
theorem d_P_append_33 : decode c_P_append 33 = .ok (.iload_n 1, 1) := by decide +kernel
theorem d_P_append_34 : decode c_P_append 34 = .ok (.iconst 4, 1) := by decide +kernel
theorem d_P_append_35 : decode c_P_append 35 = .ok (.imul, 1) := by decide +kernel
theorem d_P_append_36 : decode c_P_append 36 = .ok (.aload_n 0, 1) := by decide +kernel
theorem d_P_append_37 : decode c_P_append 37 = .ok (.getfield 21, 3) := by decide +kernel
theorem d_P_append_40 : decode c_P_append 40 = .ok (.iload_n 1, 1) := by decide +kernel
theorem d_P_append_41 : decode c_P_append 41 = .ok (.iaload, 1) := by decide +kernel
theorem d_P_append_42 : decode c_P_append 42 = .ok (.iadd, 1) := by decide +kernel
theorem d_P_append_43 : decode c_P_append 43 = .ok (.iload_n 2, 1) := by decide +kernel
theorem d_P_append_44 : decode c_P_append 44 = .ok (.iastore, 1) := by decide +kernel
theorem d_P_append_45 : decode c_P_append 45 = .ok (.aload_n 0, 1) := by decide +kernel
theorem d_P_append_46 : decode c_P_append 46 = .ok (.getfield 21, 3) := by decide +kernel
theorem d_P_append_49 : decode c_P_append 49 = .ok (.iload_n 1, 1) := by decide +kernel
theorem d_P_append_50 : decode c_P_append 50 = .ok (.dup2, 1) := by decide +kernel
theorem d_P_append_51 : decode c_P_append 51 = .ok (.iaload, 1) := by decide +kernel
theorem d_P_append_52 : decode c_P_append 52 = .ok (.iconst 1, 1) := by decide +kernel
theorem d_P_append_53 : decode c_P_append 53 = .ok (.iadd, 1) := by decide +kernel
theorem d_P_append_54 : decode c_P_append 54 = .ok (.iastore, 1) := by decide +kernel
theorem d_P_append_55 : decode c_P_append 55 = .ok (.iconst 1, 1) := by decide +kernel
theorem d_P_append_56 : decode c_P_append 56 = .ok (.ireturn, 1) := by decide +kernel
theorem d_P_mayStand_0 : decode c_P_mayStand 0 = .ok (.iload_n 2, 1) := by decide +kernel
theorem d_P_mayStand_1 : decode c_P_mayStand 1 = .ok (.invokestatic 39, 3) := by decide +kernel
theorem d_P_mayStand_4 : decode c_P_mayStand 4 = .ok (.ifCond .eq 39, 3) := by decide +kernel
theorem d_P_mayStand_7 : decode c_P_mayStand 7 = .ok (.iload_n 2, 1) := by decide +kernel
theorem d_P_mayStand_8 : decode c_P_mayStand 8 = .ok (.invokestatic 42, 3) := by decide +kernel
theorem d_P_mayStand_11 : decode c_P_mayStand 11 = .ok (.istore_n 3, 1) := by decide +kernel
theorem d_P_mayStand_12 : decode c_P_mayStand 12 = .ok (.aload_n 0, 1) := by decide +kernel
theorem d_P_mayStand_13 : decode c_P_mayStand 13 = .ok (.iload_n 3, 1) := by decide +kernel
theorem d_P_mayStand_14 : decode c_P_mayStand 14 = .ok (.iload_n 2, 1) := by decide +kernel
theorem d_P_mayStand_15 : decode c_P_mayStand 15 = .ok (.invokestatic 46, 3) := by decide +kernel
theorem d_P_mayStand_18 : decode c_P_mayStand 18 = .ok (.invokevirtual 49, 3) := by decide +kernel
theorem d_P_mayStand_21 : decode c_P_mayStand 21 = .ok (.ifCond .eq 20, 3) := by decide +kernel
theorem d_P_mayStand_24 : decode c_P_mayStand 24 = .ok (.aload_n 0, 1) := by decide +kernel
theorem d_P_mayStand_25 : decode c_P_mayStand 25 = .ok (.getfield 18, 3) := by decide +kernel
theorem d_P_mayStand_28 : decode c_P_mayStand 28 = .ok (.iload_n 1, 1) := by decide +kernel
theorem d_P_mayStand_29 : decode c_P_mayStand 29 = .ok (.iaload, 1) := by decide +kernel
theorem d_P_mayStand_30 : decode c_P_mayStand 30 = .ok (.iload_n 3, 1) := by decide +kernel
theorem d_P_mayStand_31 : decode c_P_mayStand 31 = .ok (.invokestatic 52, 3) := by decide +kernel
theorem d_P_mayStand_34 : decode c_P_mayStand 34 = .ok (.ifCond .eq 7, 3) := by decide +kernel
theorem d_P_mayStand_37 : decode c_P_mayStand 37 = .ok (.iconst 1, 1) := by decide +kernel
theorem d_P_mayStand_38 : decode c_P_mayStand 38 = .ok (.goto 4, 3) := by decide +kernel
theorem d_P_mayStand_41 : decode c_P_mayStand 41 = .ok (.iconst 0, 1) := by decide +kernel
theorem d_P_mayStand_42 : decode c_P_mayStand 42 = .ok (.ireturn, 1) := by decide +kernel
theorem d_P_mayStand_43 : decode c_P_mayStand 43 = .ok (.iload_n 2, 1) := by decide +kernel
theorem d_P_mayStand_44 : decode c_P_mayStand 44 = .ok (.invokestatic 55, 3) := by decide +kernel
theorem d_P_mayStand_47 : decode c_P_mayStand 47 = .ok (.ifCond .eq 33, 3) := by decide +kernel
theorem d_P_mayStand_50 : decode c_P_mayStand 50 = .ok (.iload_n 2, 1) := by decide +kernel
theorem d_P_mayStand_51 : decode c_P_mayStand 51 = .ok (.sipush 200, 3) := by decide +kernel
theorem d_P_mayStand_54 : decode c_P_mayStand 54 = .ok (.isub, 1) := by decide +kernel
theorem d_P_mayStand_55 : decode c_P_mayStand 55 = .ok (.istore_n 3, 1) := by decide +kernel
theorem d_P_mayStand_56 : decode c_P_mayStand 56 = .ok (.aload_n 0, 1) := by decide +kernel
theorem d_P_mayStand_57 : decode c_P_mayStand 57 = .ok (.iload_n 3, 1) := by decide +kernel
theorem d_P_mayStand_58 : decode c_P_mayStand 58 = .ok (.invokevirtual 31, 3) := by decide +kernel
theorem d_P_mayStand_61 : decode c_P_mayStand 61 = .ok (.ifCond .eq 17, 3) := by decide +kernel
theorem d_P_mayStand_64 : decode c_P_mayStand 64 = .ok (.aload_n 0, 1) := by decide +kernel
theorem d_P_mayStand_65 : decode c_P_mayStand 65 = .ok (.getfield 9, 3) := by decide +kernel
theorem d_P_mayStand_68 : decode c_P_mayStand 68 = .ok (.iload_n 3, 1) := by decide +kernel
theorem d_P_mayStand_69 : decode c_P_mayStand 69 = .ok (.iaload, 1) := by decide +kernel
theorem d_P_mayStand_70 : decode c_P_mayStand 70 = .ok (.iload_n 1, 1) := by decide +kernel
theorem d_P_mayStand_71 : decode c_P_mayStand 71 = .ok (.if_icmp .ne 7, 3) := by decide +kernel
theorem d_P_mayStand_74 : decode c_P_mayStand 74 = .ok (.iconst 1, 1) := by decide +kernel
theorem d_P_mayStand_75 : decode c_P_mayStand 75 = .ok (.goto 4, 3) := by decide +kernel
theorem d_P_mayStand_78 : decode c_P_mayStand 78 = .ok (.iconst 0, 1) := by decide +kernel
theorem d_P_mayStand_79 : decode c_P_mayStand 79 = .ok (.ireturn, 1) := by decide +kernel
theorem d_P_mayStand_80 : decode c_P_mayStand 80 = .ok (.iload_n 2, 1) := by decide +kernel
theorem d_P_mayStand_81 : decode c_P_mayStand 81 = .ok (.invokestatic 58, 3) := by decide +kernel
theorem d_P_mayStand_84 : decode c_P_mayStand 84 = .ok (.ifCond .ne 10, 3) := by decide +kernel
theorem d_P_mayStand_87 : decode c_P_mayStand 87 = .ok (.iload_n 2, 1) := by decide +kernel
theorem d_P_mayStand_88 : decode c_P_mayStand 88 = .ok (.invokestatic 61, 3) := by decide +kernel
theorem d_P_mayStand_91 : decode c_P_mayStand 91 = .ok (.ifCond .eq 7, 3) := by decide +kernel
theorem d_P_mayStand_94 : decode c_P_mayStand 94 = .ok (.iconst 1, 1) := by decide +kernel
theorem d_P_mayStand_95 : decode c_P_mayStand 95 = .ok (.goto 4, 3) := by decide +kernel
theorem d_P_mayStand_98 : decode c_P_mayStand 98 = .ok (.iconst 0, 1) := by decide +kernel
theorem d_P_mayStand_99 : decode c_P_mayStand 99 = .ok (.ireturn, 1) := by decide +kernel
theorem d_P_hasParameter_0 : decode c_P_hasParameter 0 = .ok (.aload_n 0, 1) := by decide +kernel
theorem d_P_hasParameter_1 : decode c_P_hasParameter 1 = .ok (.iload_n 1, 1) := by decide +kernel
theorem d_P_hasParameter_2 : decode c_P_hasParameter 2 = .ok (.invokevirtual 31, 3) := by decide +kernel
theorem d_P_hasParameter_5 : decode c_P_hasParameter 5 = .ok (.ifCond .eq 21, 3) := by decide +kernel
theorem d_P_hasParameter_8 : decode c_P_hasParameter 8 = .ok (.iload_n 2, 1) := by decide +kernel
theorem d_P_hasParameter_9 : decode c_P_hasParameter 9 = .ok (.ifCond .lt 17, 3) := by decide +kernel
theorem d_P_hasParameter_12 : decode c_P_hasParameter 12 = .ok (.iload_n 2, 1) := by decide +kernel
theorem d_P_hasParameter_13 : decode c_P_hasParameter 13 = .ok (.aload_n 0, 1) := by decide +kernel
theorem d_P_hasParameter_14 : decode c_P_hasParameter 14 = .ok (.getfield 15, 3) := by decide +kernel
theorem d_P_hasParameter_17 : decode c_P_hasParameter 17 = .ok (.iload_n 1, 1) := by decide +kernel
theorem d_P_hasParameter_18 : decode c_P_hasParameter 18 = .ok (.iaload, 1) := by decide +kernel
theorem d_P_hasParameter_19 : decode c_P_hasParameter 19 = .ok (.if_icmp .ge 7, 3) := by decide +kernel
theorem d_P_hasParameter_22 : decode c_P_hasParameter 22 = .ok (.iconst 1, 1) := by decide +kernel
theorem d_P_hasParameter_23 : decode c_P_hasParameter 23 = .ok (.goto 4, 3) := by decide +kernel
theorem d_P_hasParameter_26 : decode c_P_hasParameter 26 = .ok (.iconst 0, 1) := by decide +kernel
theorem d_P_hasParameter_27 : decode c_P_hasParameter 27 = .ok (.ireturn, 1) := by decide +kernel
theorem d_P_empty_0 : decode c_P_empty 0 = .ok (.aload_n 0, 1) := by decide +kernel
theorem d_P_empty_1 : decode c_P_empty 1 = .ok (.getfield 21, 3) := by decide +kernel
theorem d_P_empty_4 : decode c_P_empty 4 = .ok (.iconst 0, 1) := by decide +kernel
theorem d_P_empty_5 : decode c_P_empty 5 = .ok (.iconst 0, 1) := by decide +kernel
theorem d_P_empty_6 : decode c_P_empty 6 = .ok (.iastore, 1) := by decide +kernel
theorem d_P_empty_7 : decode c_P_empty 7 = .ok (.aload_n 0, 1) := by decide +kernel
theorem d_P_empty_8 : decode c_P_empty 8 = .ok (.iconst 1, 1) := by decide +kernel
theorem d_P_empty_9 : decode c_P_empty 9 = .ok (.putfield 27, 3) := by decide +kernel
theorem d_P_empty_12 : decode c_P_empty 12 = .ok (.return_, 1) := by decide +kernel
theorem d_P_size_0 : decode c_P_size 0 = .ok (.aload_n 0, 1) := by decide +kernel
theorem d_P_size_1 : decode c_P_size 1 = .ok (.getfield 27, 3) := by decide +kernel
theorem d_P_size_4 : decode c_P_size 4 = .ok (.ireturn, 1) := by decide +kernel
theorem d_P_hasAtom_0 : decode c_P_hasAtom 0 = .ok (.aload_n 0, 1) := by decide +kernel
theorem d_P_hasAtom_1 : decode c_P_hasAtom 1 = .ok (.iload_n 1, 1) := by decide +kernel
theorem d_P_hasAtom_2 : decode c_P_hasAtom 2 = .ok (.invokevirtual 31, 3) := by decide +kernel
theorem d_P_hasAtom_5 : decode c_P_hasAtom 5 = .ok (.ifCond .eq 21, 3) := by decide +kernel
theorem d_P_hasAtom_8 : decode c_P_hasAtom 8 = .ok (.iload_n 2, 1) := by decide +kernel
theorem d_P_hasAtom_9 : decode c_P_hasAtom 9 = .ok (.ifCond .lt 17, 3) := by decide +kernel
theorem d_P_hasAtom_12 : decode c_P_hasAtom 12 = .ok (.iload_n 2, 1) := by decide +kernel
theorem d_P_hasAtom_13 : decode c_P_hasAtom 13 = .ok (.aload_n 0, 1) := by decide +kernel
theorem d_P_hasAtom_14 : decode c_P_hasAtom 14 = .ok (.getfield 21, 3) := by decide +kernel
theorem d_P_hasAtom_17 : decode c_P_hasAtom 17 = .ok (.iload_n 1, 1) := by decide +kernel
theorem d_P_hasAtom_18 : decode c_P_hasAtom 18 = .ok (.iaload, 1) := by decide +kernel
theorem d_P_hasAtom_19 : decode c_P_hasAtom 19 = .ok (.if_icmp .ge 7, 3) := by decide +kernel
theorem d_P_hasAtom_22 : decode c_P_hasAtom 22 = .ok (.iconst 1, 1) := by decide +kernel
theorem d_P_hasAtom_23 : decode c_P_hasAtom 23 = .ok (.goto 4, 3) := by decide +kernel
theorem d_P_hasAtom_26 : decode c_P_hasAtom 26 = .ok (.iconst 0, 1) := by decide +kernel
theorem d_P_hasAtom_27 : decode c_P_hasAtom 27 = .ok (.ireturn, 1) := by decide +kernel
theorem d_P_atomOf_0 : decode c_P_atomOf 0 = .ok (.aload_n 0, 1) := by decide +kernel
theorem d_P_atomOf_1 : decode c_P_atomOf 1 = .ok (.getfield 24, 3) := by decide +kernel
theorem d_P_atomOf_4 : decode c_P_atomOf 4 = .ok (.iload_n 1, 1) := by decide +kernel
theorem d_P_atomOf_5 : decode c_P_atomOf 5 = .ok (.iconst 4, 1) := by decide +kernel
theorem d_P_atomOf_6 : decode c_P_atomOf 6 = .ok (.imul, 1) := by decide +kernel
theorem d_P_atomOf_7 : decode c_P_atomOf 7 = .ok (.iload_n 2, 1) := by decide +kernel
theorem d_P_atomOf_8 : decode c_P_atomOf 8 = .ok (.iadd, 1) := by decide +kernel
theorem d_P_atomOf_9 : decode c_P_atomOf 9 = .ok (.iaload, 1) := by decide +kernel
theorem d_P_atomOf_10 : decode c_P_atomOf 10 = .ok (.ireturn, 1) := by decide +kernel
theorem d_P_callLength_0 : decode c_P_callLength 0 = .ok (.aload_n 0, 1) := by decide +kernel
theorem d_P_callLength_1 : decode c_P_callLength 1 = .ok (.getfield 21, 3) := by decide +kernel
theorem d_P_callLength_4 : decode c_P_callLength 4 = .ok (.iload_n 1, 1) := by decide +kernel
theorem d_P_callLength_5 : decode c_P_callLength 5 = .ok (.iaload, 1) := by decide +kernel
theorem d_P_callLength_6 : decode c_P_callLength 6 = .ok (.ireturn, 1) := by decide +kernel
theorem d_P_paramsOf_0 : decode c_P_paramsOf 0 = .ok (.aload_n 0, 1) := by decide +kernel
theorem d_P_paramsOf_1 : decode c_P_paramsOf 1 = .ok (.getfield 15, 3) := by decide +kernel
theorem d_P_paramsOf_4 : decode c_P_paramsOf 4 = .ok (.iload_n 1, 1) := by decide +kernel
theorem d_P_paramsOf_5 : decode c_P_paramsOf 5 = .ok (.iaload, 1) := by decide +kernel
theorem d_P_paramsOf_6 : decode c_P_paramsOf 6 = .ok (.ireturn, 1) := by decide +kernel
theorem d_P_lineageOf_0 : decode c_P_lineageOf 0 = .ok (.aload_n 0, 1) := by decide +kernel
theorem d_P_lineageOf_1 : decode c_P_lineageOf 1 = .ok (.getfield 18, 3) := by decide +kernel
theorem d_P_lineageOf_4 : decode c_P_lineageOf 4 = .ok (.iload_n 1, 1) := by decide +kernel
theorem d_P_lineageOf_5 : decode c_P_lineageOf 5 = .ok (.iaload, 1) := by decide +kernel
theorem d_P_lineageOf_6 : decode c_P_lineageOf 6 = .ok (.ireturn, 1) := by decide +kernel
