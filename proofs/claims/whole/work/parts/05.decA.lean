theorem d_A_init_0 : decode c_A_init 0 = .ok (.aload_n 0, 1) := by decide +kernel
theorem d_A_init_1 : decode c_A_init 1 = .ok (.invokespecial 3, 3) := by decide +kernel
theorem d_A_init_4 : decode c_A_init 4 = .ok (.aload_n 0, 1) := by decide +kernel
theorem d_A_init_5 : decode c_A_init 5 = .ok (.sipush 192, 3) := by decide +kernel
theorem d_A_init_8 : decode c_A_init 8 = .ok (.newarray .int, 2) := by decide +kernel
theorem d_A_init_10 : decode c_A_init 10 = .ok (.putfield 11, 3) := by decide +kernel
theorem d_A_init_13 : decode c_A_init 13 = .ok (.aload_n 0, 1) := by decide +kernel
theorem d_A_init_14 : decode c_A_init 14 = .ok (.sipush 192, 3) := by decide +kernel
theorem d_A_init_17 : decode c_A_init 17 = .ok (.newarray .long, 2) := by decide +kernel
theorem d_A_init_19 : decode c_A_init 19 = .ok (.putfield 15, 3) := by decide +kernel
theorem d_A_init_22 : decode c_A_init 22 = .ok (.aload_n 0, 1) := by decide +kernel
theorem d_A_init_23 : decode c_A_init 23 = .ok (.iconst 5, 1) := by decide +kernel
theorem d_A_init_24 : decode c_A_init 24 = .ok (.newarray .int, 2) := by decide +kernel
theorem d_A_init_26 : decode c_A_init 26 = .ok (.putfield 19, 3) := by decide +kernel
theorem d_A_init_29 : decode c_A_init 29 = .ok (.aload_n 0, 1) := by decide +kernel
theorem d_A_init_30 : decode c_A_init 30 = .ok (.iconst 5, 1) := by decide +kernel
theorem d_A_init_31 : decode c_A_init 31 = .ok (.newarray .long, 2) := by decide +kernel
theorem d_A_init_33 : decode c_A_init 33 = .ok (.putfield 22, 3) := by decide +kernel
theorem d_A_init_36 : decode c_A_init 36 = .ok (.aload_n 0, 1) := by decide +kernel
theorem d_A_init_37 : decode c_A_init 37 = .ok (.bipush 8, 2) := by decide +kernel
theorem d_A_init_39 : decode c_A_init 39 = .ok (.newarray .int, 2) := by decide +kernel
theorem d_A_init_41 : decode c_A_init 41 = .ok (.putfield 25, 3) := by decide +kernel
theorem d_A_init_44 : decode c_A_init 44 = .ok (.aload_n 0, 1) := by decide +kernel
theorem d_A_init_45 : decode c_A_init 45 = .ok (.aload_n 1, 1) := by decide +kernel
theorem d_A_init_46 : decode c_A_init 46 = .ok (.putfield 28, 3) := by decide +kernel
theorem d_A_init_49 : decode c_A_init 49 = .ok (.return_, 1) := by decide +kernel
theorem d_A_forget_0 : decode c_A_forget 0 = .ok (.aload_n 0, 1) := by decide +kernel
theorem d_A_forget_1 : decode c_A_forget 1 = .ok (.iconst 0, 1) := by decide +kernel
theorem d_A_forget_2 : decode c_A_forget 2 = .ok (.putfield 32, 3) := by decide +kernel
theorem d_A_forget_5 : decode c_A_forget 5 = .ok (.return_, 1) := by decide +kernel
theorem d_A_make_0 : decode c_A_make 0 = .ok (.aload_n 0, 1) := by decide +kernel
theorem d_A_make_1 : decode c_A_make 1 = .ok (.invokevirtual 52, 3) := by decide +kernel
theorem d_A_make_4 : decode c_A_make 4 = .ok (.aload_n 0, 1) := by decide +kernel
theorem d_A_make_5 : decode c_A_make 5 = .ok (.iconst 0, 1) := by decide +kernel
theorem d_A_make_6 : decode c_A_make 6 = .ok (.iconst 0, 1) := by decide +kernel
theorem d_A_make_7 : decode c_A_make 7 = .ok (.invokestatic 55, 3) := by decide +kernel
theorem d_A_make_10 : decode c_A_make 10 = .ok (.putfield 36, 3) := by decide +kernel
theorem d_A_make_13 : decode c_A_make 13 = .ok (.aload_n 0, 1) := by decide +kernel
theorem d_A_make_14 : decode c_A_make 14 = .ok (.iconst 1, 1) := by decide +kernel
theorem d_A_make_15 : decode c_A_make 15 = .ok (.putfield 59, 3) := by decide +kernel
theorem d_A_make_18 : decode c_A_make 18 = .ok (.iconst 0, 1) := by decide +kernel
theorem d_A_make_19 : decode c_A_make 19 = .ok (.istore_n 2, 1) := by decide +kernel
theorem d_A_make_20 : decode c_A_make 20 = .ok (.aload_n 0, 1) := by decide +kernel
theorem d_A_make_21 : decode c_A_make 21 = .ok (.getfield 59, 3) := by decide +kernel
theorem d_A_make_24 : decode c_A_make 24 = .ok (.ifCond .eq 59, 3) := by decide +kernel
theorem d_A_make_27 : decode c_A_make 27 = .ok (.iload_n 2, 1) := by decide +kernel
theorem d_A_make_28 : decode c_A_make 28 = .ok (.sipush 20000, 3) := by decide +kernel
theorem d_A_make_31 : decode c_A_make 31 = .ok (.if_icmp .ge 52, 3) := by decide +kernel
theorem d_A_make_34 : decode c_A_make 34 = .ok (.aload_n 0, 1) := by decide +kernel
theorem d_A_make_35 : decode c_A_make 35 = .ok (.iconst 0, 1) := by decide +kernel
theorem d_A_make_36 : decode c_A_make 36 = .ok (.putfield 59, 3) := by decide +kernel
theorem d_A_make_39 : decode c_A_make 39 = .ok (.iconst 0, 1) := by decide +kernel
theorem d_A_make_40 : decode c_A_make 40 = .ok (.istore_n 3, 1) := by decide +kernel
theorem d_A_make_41 : decode c_A_make 41 = .ok (.iload_n 3, 1) := by decide +kernel
theorem d_A_make_42 : decode c_A_make 42 = .ok (.bipush 64, 2) := by decide +kernel
theorem d_A_make_44 : decode c_A_make 44 = .ok (.if_icmp .ge 33, 3) := by decide +kernel
theorem d_A_make_47 : decode c_A_make 47 = .ok (.aload_n 0, 1) := by decide +kernel
theorem d_A_make_48 : decode c_A_make 48 = .ok (.getfield 36, 3) := by decide +kernel
theorem d_A_make_51 : decode c_A_make 51 = .ok (.iload_n 3, 1) := by decide +kernel
theorem d_A_make_52 : decode c_A_make 52 = .ok (.invokestatic 62, 3) := by decide +kernel
theorem d_A_make_55 : decode c_A_make 55 = .ok (.ifCond .eq 16, 3) := by decide +kernel
theorem d_A_make_58 : decode c_A_make 58 = .ok (.aload_n 0, 1) := by decide +kernel
theorem d_A_make_59 : decode c_A_make 59 = .ok (.iload_n 3, 1) := by decide +kernel
theorem d_A_make_60 : decode c_A_make 60 = .ok (.bipush 8, 2) := by decide +kernel
theorem d_A_make_62 : decode c_A_make 62 = .ok (.idiv, 1) := by decide +kernel
theorem d_A_make_63 : decode c_A_make 63 = .ok (.iload_n 3, 1) := by decide +kernel
theorem d_A_make_64 : decode c_A_make 64 = .ok (.bipush 8, 2) := by decide +kernel
theorem d_A_make_66 : decode c_A_make 66 = .ok (.irem, 1) := by decide +kernel
theorem d_A_make_67 : decode c_A_make 67 = .ok (.iload_n 1, 1) := by decide +kernel
theorem d_A_make_68 : decode c_A_make 68 = .ok (.invokevirtual 66, 3) := by decide +kernel
theorem d_A_make_71 : decode c_A_make 71 = .ok (.iinc 3 1, 3) := by decide +kernel
theorem d_A_make_74 : decode c_A_make 74 = .ok (.goto (-33), 3) := by decide +kernel
theorem d_A_make_77 : decode c_A_make 77 = .ok (.iinc 2 1, 3) := by decide +kernel
theorem d_A_make_80 : decode c_A_make 80 = .ok (.goto (-60), 3) := by decide +kernel
theorem d_A_make_83 : decode c_A_make 83 = .ok (.aload_n 0, 1) := by decide +kernel
theorem d_A_make_84 : decode c_A_make 84 = .ok (.iconst 1, 1) := by decide +kernel
theorem d_A_make_85 : decode c_A_make 85 = .ok (.putfield 32, 3) := by decide +kernel
theorem d_A_make_88 : decode c_A_make 88 = .ok (.aload_n 0, 1) := by decide +kernel
theorem d_A_make_89 : decode c_A_make 89 = .ok (.getfield 36, 3) := by decide +kernel
theorem d_A_make_92 : decode c_A_make 92 = .ok (.invokestatic 70, 3) := by decide +kernel
theorem d_A_make_95 : decode c_A_make 95 = .ok (.ireturn, 1) := by decide +kernel
theorem d_A_emptySets_0 : decode c_A_emptySets 0 = .ok (.aload_n 0, 1) := by decide +kernel
theorem d_A_emptySets_1 : decode c_A_emptySets 1 = .ok (.getfield 11, 3) := by decide +kernel
theorem d_A_emptySets_4 : decode c_A_emptySets 4 = .ok (.iconst 0, 1) := by decide +kernel
theorem d_A_emptySets_5 : decode c_A_emptySets 5 = .ok (.invokestatic 76, 3) := by decide +kernel
theorem d_A_emptySets_8 : decode c_A_emptySets 8 = .ok (.aload_n 0, 1) := by decide +kernel
theorem d_A_emptySets_9 : decode c_A_emptySets 9 = .ok (.getfield 15, 3) := by decide +kernel
theorem d_A_emptySets_12 : decode c_A_emptySets 12 = .ok (.lconst 0, 1) := by decide +kernel
theorem d_A_emptySets_13 : decode c_A_emptySets 13 = .ok (.invokestatic 82, 3) := by decide +kernel
theorem d_A_emptySets_16 : decode c_A_emptySets 16 = .ok (.aload_n 0, 1) := by decide +kernel
theorem d_A_emptySets_17 : decode c_A_emptySets 17 = .ok (.getfield 25, 3) := by decide +kernel
theorem d_A_emptySets_20 : decode c_A_emptySets 20 = .ok (.iconst 0, 1) := by decide +kernel
theorem d_A_emptySets_21 : decode c_A_emptySets 21 = .ok (.invokestatic 76, 3) := by decide +kernel
theorem d_A_emptySets_24 : decode c_A_emptySets 24 = .ok (.aload_n 0, 1) := by decide +kernel
theorem d_A_emptySets_25 : decode c_A_emptySets 25 = .ok (.iconst 0, 1) := by decide +kernel
theorem d_A_emptySets_26 : decode c_A_emptySets 26 = .ok (.putfield 44, 3) := by decide +kernel
theorem d_A_emptySets_29 : decode c_A_emptySets 29 = .ok (.return_, 1) := by decide +kernel
theorem d_A_pair_0 : decode c_A_pair 0 = .ok (.lconst 1, 1) := by decide +kernel
theorem d_A_pair_1 : decode c_A_pair 1 = .ok (.bipush 8, 2) := by decide +kernel
theorem d_A_pair_3 : decode c_A_pair 3 = .ok (.iload_n 0, 1) := by decide +kernel
theorem d_A_pair_4 : decode c_A_pair 4 = .ok (.imul, 1) := by decide +kernel
theorem d_A_pair_5 : decode c_A_pair 5 = .ok (.iload_n 1, 1) := by decide +kernel
theorem d_A_pair_6 : decode c_A_pair 6 = .ok (.iadd, 1) := by decide +kernel
theorem d_A_pair_7 : decode c_A_pair 7 = .ok (.lshl, 1) := by decide +kernel
theorem d_A_pair_8 : decode c_A_pair 8 = .ok (.lreturn, 1) := by decide +kernel
theorem d_A_hasPair_0 : decode c_A_hasPair 0 = .ok (.lload_n 0, 1) := by decide +kernel
theorem d_A_hasPair_1 : decode c_A_hasPair 1 = .ok (.iload_n 2, 1) := by decide +kernel
theorem d_A_hasPair_2 : decode c_A_hasPair 2 = .ok (.lushr, 1) := by decide +kernel
theorem d_A_hasPair_3 : decode c_A_hasPair 3 = .ok (.lconst 1, 1) := by decide +kernel
theorem d_A_hasPair_4 : decode c_A_hasPair 4 = .ok (.land, 1) := by decide +kernel
theorem d_A_hasPair_5 : decode c_A_hasPair 5 = .ok (.lconst 0, 1) := by decide +kernel
theorem d_A_hasPair_6 : decode c_A_hasPair 6 = .ok (.lcmp, 1) := by decide +kernel
theorem d_A_hasPair_7 : decode c_A_hasPair 7 = .ok (.ifCond .eq 7, 3) := by decide +kernel
theorem d_A_hasPair_10 : decode c_A_hasPair 10 = .ok (.iconst 1, 1) := by decide +kernel
theorem d_A_hasPair_11 : decode c_A_hasPair 11 = .ok (.goto 4, 3) := by decide +kernel
theorem d_A_hasPair_14 : decode c_A_hasPair 14 = .ok (.iconst 0, 1) := by decide +kernel
theorem d_A_hasPair_15 : decode c_A_hasPair 15 = .ok (.ireturn, 1) := by decide +kernel
theorem d_A_visit_0 : decode c_A_visit 0 = .ok (.aload_n 0, 1) := by decide +kernel
theorem d_A_visit_1 : decode c_A_visit 1 = .ok (.getfield 28, 3) := by decide +kernel
theorem d_A_visit_4 : decode c_A_visit 4 = .ok (.iload_n 1, 1) := by decide +kernel
theorem d_A_visit_5 : decode c_A_visit 5 = .ok (.invokevirtual 85, 3) := by decide +kernel
theorem d_A_visit_8 : decode c_A_visit 8 = .ok (.istore 4, 2) := by decide +kernel
theorem d_A_visit_10 : decode c_A_visit 10 = .ok (.iload 4, 2) := by decide +kernel
theorem d_A_visit_12 : decode c_A_visit 12 = .ok (.ifCond .ne 4, 3) := by decide +kernel
theorem d_A_visit_15 : decode c_A_visit 15 = .ok (.return_, 1) := by decide +kernel
theorem d_A_visit_16 : decode c_A_visit 16 = .ok (.aload_n 0, 1) := by decide +kernel
theorem d_A_visit_17 : decode c_A_visit 17 = .ok (.iload_n 1, 1) := by decide +kernel
theorem d_A_visit_18 : decode c_A_visit 18 = .ok (.putfield 91, 3) := by decide +kernel
theorem d_A_visit_21 : decode c_A_visit 21 = .ok (.aload_n 0, 1) := by decide +kernel
theorem d_A_visit_22 : decode c_A_visit 22 = .ok (.iload_n 3, 1) := by decide +kernel
theorem d_A_visit_23 : decode c_A_visit 23 = .ok (.iconst 1, 1) := by decide +kernel
theorem d_A_visit_24 : decode c_A_visit 24 = .ok (.if_icmp .ne 7, 3) := by decide +kernel
theorem d_A_visit_27 : decode c_A_visit 27 = .ok (.iload_n 1, 1) := by decide +kernel
theorem d_A_visit_28 : decode c_A_visit 28 = .ok (.goto 4, 3) := by decide +kernel
theorem d_A_visit_31 : decode c_A_visit 31 = .ok (.iconst 0, 1) := by decide +kernel
theorem d_A_visit_32 : decode c_A_visit 32 = .ok (.putfield 94, 3) := by decide +kernel
theorem d_A_visit_35 : decode c_A_visit 35 = .ok (.iconst 0, 1) := by decide +kernel
theorem d_A_visit_36 : decode c_A_visit 36 = .ok (.istore 5, 2) := by decide +kernel
theorem d_A_visit_38 : decode c_A_visit 38 = .ok (.iload 5, 2) := by decide +kernel
theorem d_A_visit_40 : decode c_A_visit 40 = .ok (.iload 4, 2) := by decide +kernel
theorem d_A_visit_42 : decode c_A_visit 42 = .ok (.if_icmp .ge 26, 3) := by decide +kernel
theorem d_A_visit_45 : decode c_A_visit 45 = .ok (.aload_n 0, 1) := by decide +kernel
theorem d_A_visit_46 : decode c_A_visit 46 = .ok (.iload 5, 2) := by decide +kernel
theorem d_A_visit_48 : decode c_A_visit 48 = .ok (.aload_n 0, 1) := by decide +kernel
theorem d_A_visit_49 : decode c_A_visit 49 = .ok (.getfield 28, 3) := by decide +kernel
theorem d_A_visit_52 : decode c_A_visit 52 = .ok (.iload_n 1, 1) := by decide +kernel
theorem d_A_visit_53 : decode c_A_visit 53 = .ok (.iload 5, 2) := by decide +kernel
theorem d_A_visit_55 : decode c_A_visit 55 = .ok (.invokevirtual 97, 3) := by decide +kernel
theorem d_A_visit_58 : decode c_A_visit 58 = .ok (.iload_n 2, 1) := by decide +kernel
theorem d_A_visit_59 : decode c_A_visit 59 = .ok (.invokevirtual 101, 3) := by decide +kernel
theorem d_A_visit_62 : decode c_A_visit 62 = .ok (.iinc 5 1, 3) := by decide +kernel
theorem d_A_visit_65 : decode c_A_visit 65 = .ok (.goto (-27), 3) := by decide +kernel
theorem d_A_visit_68 : decode c_A_visit 68 = .ok (.aload_n 0, 1) := by decide +kernel
theorem d_A_visit_69 : decode c_A_visit 69 = .ok (.iconst 0, 1) := by decide +kernel
theorem d_A_visit_70 : decode c_A_visit 70 = .ok (.iconst 1, 1) := by decide +kernel
theorem d_A_visit_71 : decode c_A_visit 71 = .ok (.iload 4, 2) := by decide +kernel
theorem d_A_visit_73 : decode c_A_visit 73 = .ok (.iconst 1, 1) := by decide +kernel
theorem d_A_visit_74 : decode c_A_visit 74 = .ok (.isub, 1) := by decide +kernel
theorem d_A_visit_75 : decode c_A_visit 75 = .ok (.invokevirtual 104, 3) := by decide +kernel
theorem d_A_visit_78 : decode c_A_visit 78 = .ok (.iload 4, 2) := by decide +kernel
theorem d_A_visit_80 : decode c_A_visit 80 = .ok (.iconst 4, 1) := by decide +kernel
theorem d_A_visit_81 : decode c_A_visit 81 = .ok (.if_icmp .ne 12, 3) := by decide +kernel
theorem d_A_visit_84 : decode c_A_visit 84 = .ok (.aload_n 0, 1) := by decide +kernel
theorem d_A_visit_85 : decode c_A_visit 85 = .ok (.getfield 19, 3) := by decide +kernel
theorem d_A_visit_88 : decode c_A_visit 88 = .ok (.iconst 0, 1) := by decide +kernel
theorem d_A_visit_89 : decode c_A_visit 89 = .ok (.iaload, 1) := by decide +kernel
theorem d_A_visit_90 : decode c_A_visit 90 = .ok (.goto 4, 3) := by decide +kernel
theorem d_A_visit_93 : decode c_A_visit 93 = .ok (.iconst 0, 1) := by decide +kernel
theorem d_A_visit_94 : decode c_A_visit 94 = .ok (.istore 5, 2) := by decide +kernel
theorem d_A_visit_96 : decode c_A_visit 96 = .ok (.aload_n 0, 1) := by decide +kernel
theorem d_A_visit_97 : decode c_A_visit 97 = .ok (.getfield 19, 3) := by decide +kernel
theorem d_A_visit_100 : decode c_A_visit 100 = .ok (.iconst 1, 1) := by decide +kernel
theorem d_A_visit_101 : decode c_A_visit 101 = .ok (.iaload, 1) := by decide +kernel
theorem d_A_visit_102 : decode c_A_visit 102 = .ok (.sipush 1023, 3) := by decide +kernel
theorem d_A_visit_105 : decode c_A_visit 105 = .ok (.iand, 1) := by decide +kernel
theorem d_A_visit_106 : decode c_A_visit 106 = .ok (.istore 6, 2) := by decide +kernel
theorem d_A_visit_108 : decode c_A_visit 108 = .ok (.iload 5, 2) := by decide +kernel
theorem d_A_visit_110 : decode c_A_visit 110 = .ok (.sipush 301, 3) := by decide +kernel
theorem d_A_visit_113 : decode c_A_visit 113 = .ok (.invokestatic 107, 3) := by decide +kernel
theorem d_A_visit_116 : decode c_A_visit 116 = .ok (.invokestatic 110, 3) := by decide +kernel
theorem d_A_visit_119 : decode c_A_visit 119 = .ok (.ifCond .eq 29, 3) := by decide +kernel
theorem d_A_visit_122 : decode c_A_visit 122 = .ok (.aload_n 0, 1) := by decide +kernel
theorem d_A_visit_123 : decode c_A_visit 123 = .ok (.iload 6, 2) := by decide +kernel
theorem d_A_visit_125 : decode c_A_visit 125 = .ok (.aload_n 0, 1) := by decide +kernel
theorem d_A_visit_126 : decode c_A_visit 126 = .ok (.getfield 19, 3) := by decide +kernel
theorem d_A_visit_129 : decode c_A_visit 129 = .ok (.iconst 2, 1) := by decide +kernel
theorem d_A_visit_130 : decode c_A_visit 130 = .ok (.iaload, 1) := by decide +kernel
theorem d_A_visit_131 : decode c_A_visit 131 = .ok (.sipush 1023, 3) := by decide +kernel
theorem d_A_visit_134 : decode c_A_visit 134 = .ok (.iand, 1) := by decide +kernel
theorem d_A_visit_135 : decode c_A_visit 135 = .ok (.invokevirtual 114, 3) := by decide +kernel
theorem d_A_visit_138 : decode c_A_visit 138 = .ok (.ifCond .eq 10, 3) := by decide +kernel
theorem d_A_visit_141 : decode c_A_visit 141 = .ok (.aload_n 0, 1) := by decide +kernel
theorem d_A_visit_142 : decode c_A_visit 142 = .ok (.iconst 3, 1) := by decide +kernel
theorem d_A_visit_143 : decode c_A_visit 143 = .ok (.iconst 4, 1) := by decide +kernel
theorem d_A_visit_144 : decode c_A_visit 144 = .ok (.iconst 1, 1) := by decide +kernel
theorem d_A_visit_145 : decode c_A_visit 145 = .ok (.invokevirtual 104, 3) := by decide +kernel
theorem d_A_visit_148 : decode c_A_visit 148 = .ok (.iload 5, 2) := by decide +kernel
theorem d_A_visit_150 : decode c_A_visit 150 = .ok (.sipush 302, 3) := by decide +kernel
theorem d_A_visit_153 : decode c_A_visit 153 = .ok (.invokestatic 107, 3) := by decide +kernel
theorem d_A_visit_156 : decode c_A_visit 156 = .ok (.invokestatic 110, 3) := by decide +kernel
theorem d_A_visit_159 : decode c_A_visit 159 = .ok (.ifCond .eq 19, 3) := by decide +kernel
theorem d_A_visit_162 : decode c_A_visit 162 = .ok (.iload 6, 2) := by decide +kernel
theorem d_A_visit_164 : decode c_A_visit 164 = .ok (.iconst 0, 1) := by decide +kernel
theorem d_A_visit_165 : decode c_A_visit 165 = .ok (.invokestatic 110, 3) := by decide +kernel
theorem d_A_visit_168 : decode c_A_visit 168 = .ok (.ifCond .eq 10, 3) := by decide +kernel
theorem d_A_visit_171 : decode c_A_visit 171 = .ok (.aload_n 0, 1) := by decide +kernel
theorem d_A_visit_172 : decode c_A_visit 172 = .ok (.iconst 2, 1) := by decide +kernel
theorem d_A_visit_173 : decode c_A_visit 173 = .ok (.iconst 1, 1) := by decide +kernel
theorem d_A_visit_174 : decode c_A_visit 174 = .ok (.iconst 0, 1) := by decide +kernel
theorem d_A_visit_175 : decode c_A_visit 175 = .ok (.invokevirtual 104, 3) := by decide +kernel
theorem d_A_visit_178 : decode c_A_visit 178 = .ok (.iload 5, 2) := by decide +kernel
theorem d_A_visit_180 : decode c_A_visit 180 = .ok (.sipush 302, 3) := by decide +kernel
theorem d_A_visit_183 : decode c_A_visit 183 = .ok (.invokestatic 107, 3) := by decide +kernel
theorem d_A_visit_186 : decode c_A_visit 186 = .ok (.invokestatic 110, 3) := by decide +kernel
theorem d_A_visit_189 : decode c_A_visit 189 = .ok (.ifCond .eq 16, 3) := by decide +kernel
theorem d_A_visit_192 : decode c_A_visit 192 = .ok (.iload 6, 2) := by decide +kernel
theorem d_A_visit_194 : decode c_A_visit 194 = .ok (.iconst 1, 1) := by decide +kernel
theorem d_A_visit_195 : decode c_A_visit 195 = .ok (.if_icmp .le 10, 3) := by decide +kernel
theorem d_A_visit_198 : decode c_A_visit 198 = .ok (.aload_n 0, 1) := by decide +kernel
theorem d_A_visit_199 : decode c_A_visit 199 = .ok (.iconst 3, 1) := by decide +kernel
theorem d_A_visit_200 : decode c_A_visit 200 = .ok (.iconst 1, 1) := by decide +kernel
theorem d_A_visit_201 : decode c_A_visit 201 = .ok (.iconst 0, 1) := by decide +kernel
theorem d_A_visit_202 : decode c_A_visit 202 = .ok (.invokevirtual 104, 3) := by decide +kernel
theorem d_A_visit_205 : decode c_A_visit 205 = .ok (.return_, 1) := by decide +kernel
theorem d_A_loadOperand_0 : decode c_A_loadOperand 0 = .ok (.aload_n 0, 1) := by decide +kernel
theorem d_A_loadOperand_1 : decode c_A_loadOperand 1 = .ok (.getfield 19, 3) := by decide +kernel
theorem d_A_loadOperand_4 : decode c_A_loadOperand 4 = .ok (.iload_n 1, 1) := by decide +kernel
theorem d_A_loadOperand_5 : decode c_A_loadOperand 5 = .ok (.iconst 0, 1) := by decide +kernel
theorem d_A_loadOperand_6 : decode c_A_loadOperand 6 = .ok (.iastore, 1) := by decide +kernel
theorem d_A_loadOperand_7 : decode c_A_loadOperand 7 = .ok (.aload_n 0, 1) := by decide +kernel
theorem d_A_loadOperand_8 : decode c_A_loadOperand 8 = .ok (.getfield 22, 3) := by decide +kernel
theorem d_A_loadOperand_11 : decode c_A_loadOperand 11 = .ok (.iload_n 1, 1) := by decide +kernel
theorem d_A_loadOperand_12 : decode c_A_loadOperand 12 = .ok (.lconst 0, 1) := by decide +kernel
theorem d_A_loadOperand_13 : decode c_A_loadOperand 13 = .ok (.lastore, 1) := by decide +kernel
theorem d_A_loadOperand_14 : decode c_A_loadOperand 14 = .ok (.iload_n 2, 1) := by decide +kernel
theorem d_A_loadOperand_15 : decode c_A_loadOperand 15 = .ok (.invokestatic 117, 3) := by decide +kernel
theorem d_A_loadOperand_18 : decode c_A_loadOperand 18 = .ok (.ifCond .eq 46, 3) := by decide +kernel
theorem d_A_loadOperand_21 : decode c_A_loadOperand 21 = .ok (.iload_n 2, 1) := by decide +kernel
theorem d_A_loadOperand_22 : decode c_A_loadOperand 22 = .ok (.invokestatic 121, 3) := by decide +kernel
theorem d_A_loadOperand_25 : decode c_A_loadOperand 25 = .ok (.iload_n 2, 1) := by decide +kernel
theorem d_A_loadOperand_26 : decode c_A_loadOperand 26 = .ok (.invokestatic 124, 3) := by decide +kernel
theorem d_A_loadOperand_29 : decode c_A_loadOperand 29 = .ok (.iload_n 3, 1) := by decide +kernel
theorem d_A_loadOperand_30 : decode c_A_loadOperand 30 = .ok (.invokestatic 48, 3) := by decide +kernel
theorem d_A_loadOperand_33 : decode c_A_loadOperand 33 = .ok (.istore 4, 2) := by decide +kernel
theorem d_A_loadOperand_35 : decode c_A_loadOperand 35 = .ok (.aload_n 0, 1) := by decide +kernel
theorem d_A_loadOperand_36 : decode c_A_loadOperand 36 = .ok (.getfield 19, 3) := by decide +kernel
theorem d_A_loadOperand_39 : decode c_A_loadOperand 39 = .ok (.iload_n 1, 1) := by decide +kernel
theorem d_A_loadOperand_40 : decode c_A_loadOperand 40 = .ok (.aload_n 0, 1) := by decide +kernel
theorem d_A_loadOperand_41 : decode c_A_loadOperand 41 = .ok (.getfield 11, 3) := by decide +kernel
theorem d_A_loadOperand_44 : decode c_A_loadOperand 44 = .ok (.iload 4, 2) := by decide +kernel
theorem d_A_loadOperand_46 : decode c_A_loadOperand 46 = .ok (.iaload, 1) := by decide +kernel
theorem d_A_loadOperand_47 : decode c_A_loadOperand 47 = .ok (.iastore, 1) := by decide +kernel
theorem d_A_loadOperand_48 : decode c_A_loadOperand 48 = .ok (.aload_n 0, 1) := by decide +kernel
theorem d_A_loadOperand_49 : decode c_A_loadOperand 49 = .ok (.getfield 22, 3) := by decide +kernel
theorem d_A_loadOperand_52 : decode c_A_loadOperand 52 = .ok (.iload_n 1, 1) := by decide +kernel
theorem d_A_loadOperand_53 : decode c_A_loadOperand 53 = .ok (.aload_n 0, 1) := by decide +kernel
theorem d_A_loadOperand_54 : decode c_A_loadOperand 54 = .ok (.getfield 15, 3) := by decide +kernel
theorem d_A_loadOperand_57 : decode c_A_loadOperand 57 = .ok (.iload 4, 2) := by decide +kernel
theorem d_A_loadOperand_59 : decode c_A_loadOperand 59 = .ok (.laload, 1) := by decide +kernel
theorem d_A_loadOperand_60 : decode c_A_loadOperand 60 = .ok (.lastore, 1) := by decide +kernel
theorem d_A_loadOperand_61 : decode c_A_loadOperand 61 = .ok (.goto 40, 3) := by decide +kernel
theorem d_A_loadOperand_64 : decode c_A_loadOperand 64 = .ok (.iload_n 2, 1) := by decide +kernel
theorem d_A_loadOperand_65 : decode c_A_loadOperand 65 = .ok (.invokestatic 127, 3) := by decide +kernel
theorem d_A_loadOperand_68 : decode c_A_loadOperand 68 = .ok (.ifCond .eq 21, 3) := by decide +kernel
theorem d_A_loadOperand_71 : decode c_A_loadOperand 71 = .ok (.aload_n 0, 1) := by decide +kernel
theorem d_A_loadOperand_72 : decode c_A_loadOperand 72 = .ok (.getfield 22, 3) := by decide +kernel
theorem d_A_loadOperand_75 : decode c_A_loadOperand 75 = .ok (.iload_n 1, 1) := by decide +kernel
theorem d_A_loadOperand_76 : decode c_A_loadOperand 76 = .ok (.iload_n 2, 1) := by decide +kernel
theorem d_A_loadOperand_77 : decode c_A_loadOperand 77 = .ok (.sipush 200, 3) := by decide +kernel
theorem d_A_loadOperand_80 : decode c_A_loadOperand 80 = .ok (.isub, 1) := by decide +kernel
theorem d_A_loadOperand_81 : decode c_A_loadOperand 81 = .ok (.iload_n 3, 1) := by decide +kernel
theorem d_A_loadOperand_82 : decode c_A_loadOperand 82 = .ok (.invokestatic 55, 3) := by decide +kernel
theorem d_A_loadOperand_85 : decode c_A_loadOperand 85 = .ok (.lastore, 1) := by decide +kernel
theorem d_A_loadOperand_86 : decode c_A_loadOperand 86 = .ok (.goto 15, 3) := by decide +kernel
theorem d_A_loadOperand_89 : decode c_A_loadOperand 89 = .ok (.aload_n 0, 1) := by decide +kernel
theorem d_A_loadOperand_90 : decode c_A_loadOperand 90 = .ok (.getfield 19, 3) := by decide +kernel
theorem d_A_loadOperand_93 : decode c_A_loadOperand 93 = .ok (.iload_n 1, 1) := by decide +kernel
theorem d_A_loadOperand_94 : decode c_A_loadOperand 94 = .ok (.iconst 1, 1) := by decide +kernel
theorem d_A_loadOperand_95 : decode c_A_loadOperand 95 = .ok (.iload_n 2, 1) := by decide +kernel
theorem d_A_loadOperand_96 : decode c_A_loadOperand 96 = .ok (.invokestatic 107, 3) := by decide +kernel
theorem d_A_loadOperand_99 : decode c_A_loadOperand 99 = .ok (.ishl, 1) := by decide +kernel
theorem d_A_loadOperand_100 : decode c_A_loadOperand 100 = .ok (.iastore, 1) := by decide +kernel
theorem d_A_loadOperand_101 : decode c_A_loadOperand 101 = .ok (.return_, 1) := by decide +kernel
theorem d_A_slot_0 : decode c_A_slot 0 = .ok (.iload_n 0, 1) := by decide +kernel
theorem d_A_slot_1 : decode c_A_slot 1 = .ok (.iconst 3, 1) := by decide +kernel
theorem d_A_slot_2 : decode c_A_slot 2 = .ok (.imul, 1) := by decide +kernel
theorem d_A_slot_3 : decode c_A_slot 3 = .ok (.iload_n 1, 1) := by decide +kernel
theorem d_A_slot_4 : decode c_A_slot 4 = .ok (.iadd, 1) := by decide +kernel
theorem d_A_slot_5 : decode c_A_slot 5 = .ok (.bipush 8, 2) := by decide +kernel
theorem d_A_slot_7 : decode c_A_slot 7 = .ok (.imul, 1) := by decide +kernel
theorem d_A_slot_8 : decode c_A_slot 8 = .ok (.iload_n 2, 1) := by decide +kernel
theorem d_A_slot_9 : decode c_A_slot 9 = .ok (.iadd, 1) := by decide +kernel
theorem d_A_slot_10 : decode c_A_slot 10 = .ok (.ireturn, 1) := by decide +kernel
theorem d_A_constantBit_0 : decode c_A_constantBit 0 = .ok (.iload_n 0, 1) := by decide +kernel
theorem d_A_constantBit_1 : decode c_A_constantBit 1 = .ok (.invokestatic 151, 3) := by decide +kernel
theorem d_A_constantBit_4 : decode c_A_constantBit 4 = .ok (.ifCond .eq 7, 3) := by decide +kernel
theorem d_A_constantBit_7 : decode c_A_constantBit 7 = .ok (.iload_n 0, 1) := by decide +kernel
theorem d_A_constantBit_8 : decode c_A_constantBit 8 = .ok (.goto 11, 3) := by decide +kernel
theorem d_A_constantBit_11 : decode c_A_constantBit 11 = .ok (.bipush 10, 2) := by decide +kernel
theorem d_A_constantBit_13 : decode c_A_constantBit 13 = .ok (.iload_n 0, 1) := by decide +kernel
theorem d_A_constantBit_14 : decode c_A_constantBit 14 = .ok (.iadd, 1) := by decide +kernel
theorem d_A_constantBit_15 : decode c_A_constantBit 15 = .ok (.sipush 300, 3) := by decide +kernel
theorem d_A_constantBit_18 : decode c_A_constantBit 18 = .ok (.isub, 1) := by decide +kernel
theorem d_A_constantBit_19 : decode c_A_constantBit 19 = .ok (.ireturn, 1) := by decide +kernel
theorem d_A_applyDirectly_0 : decode c_A_applyDirectly 0 = .ok (.iload_n 3, 1) := by decide +kernel
theorem d_A_applyDirectly_1 : decode c_A_applyDirectly 1 = .ok (.iconst 1, 1) := by decide +kernel
theorem d_A_applyDirectly_2 : decode c_A_applyDirectly 2 = .ok (.if_icmp .ne 63, 3) := by decide +kernel
theorem d_A_applyDirectly_5 : decode c_A_applyDirectly 5 = .ok (.aload_n 0, 1) := by decide +kernel
theorem d_A_applyDirectly_6 : decode c_A_applyDirectly 6 = .ok (.getfield 19, 3) := by decide +kernel
theorem d_A_applyDirectly_9 : decode c_A_applyDirectly 9 = .ok (.iload_n 1, 1) := by decide +kernel
theorem d_A_applyDirectly_10 : decode c_A_applyDirectly 10 = .ok (.iaload, 1) := by decide +kernel
theorem d_A_applyDirectly_11 : decode c_A_applyDirectly 11 = .ok (.sipush 300, 3) := by decide +kernel
theorem d_A_applyDirectly_14 : decode c_A_applyDirectly 14 = .ok (.invokestatic 107, 3) := by decide +kernel
theorem d_A_applyDirectly_17 : decode c_A_applyDirectly 17 = .ok (.invokestatic 110, 3) := by decide +kernel
theorem d_A_applyDirectly_20 : decode c_A_applyDirectly 20 = .ok (.ifCond .eq 45, 3) := by decide +kernel
theorem d_A_applyDirectly_23 : decode c_A_applyDirectly 23 = .ok (.aload_n 0, 1) := by decide +kernel
theorem d_A_applyDirectly_24 : decode c_A_applyDirectly 24 = .ok (.dup, 1) := by decide +kernel
theorem d_A_applyDirectly_25 : decode c_A_applyDirectly 25 = .ok (.getfield 44, 3) := by decide +kernel
theorem d_A_applyDirectly_28 : decode c_A_applyDirectly 28 = .ok (.aload_n 0, 1) := by decide +kernel
theorem d_A_applyDirectly_29 : decode c_A_applyDirectly 29 = .ok (.getfield 19, 3) := by decide +kernel
theorem d_A_applyDirectly_32 : decode c_A_applyDirectly 32 = .ok (.iload_n 2, 1) := by decide +kernel
theorem d_A_applyDirectly_33 : decode c_A_applyDirectly 33 = .ok (.iaload, 1) := by decide +kernel
theorem d_A_applyDirectly_34 : decode c_A_applyDirectly 34 = .ok (.ior, 1) := by decide +kernel
theorem d_A_applyDirectly_35 : decode c_A_applyDirectly 35 = .ok (.putfield 44, 3) := by decide +kernel
theorem d_A_applyDirectly_38 : decode c_A_applyDirectly 38 = .ok (.aload_n 0, 1) := by decide +kernel
theorem d_A_applyDirectly_39 : decode c_A_applyDirectly 39 = .ok (.dup, 1) := by decide +kernel
theorem d_A_applyDirectly_40 : decode c_A_applyDirectly 40 = .ok (.getfield 44, 3) := by decide +kernel
theorem d_A_applyDirectly_43 : decode c_A_applyDirectly 43 = .ok (.aload_n 0, 1) := by decide +kernel
theorem d_A_applyDirectly_44 : decode c_A_applyDirectly 44 = .ok (.getfield 22, 3) := by decide +kernel
theorem d_A_applyDirectly_47 : decode c_A_applyDirectly 47 = .ok (.iload_n 2, 1) := by decide +kernel
theorem d_A_applyDirectly_48 : decode c_A_applyDirectly 48 = .ok (.laload, 1) := by decide +kernel
theorem d_A_applyDirectly_49 : decode c_A_applyDirectly 49 = .ok (.lconst 0, 1) := by decide +kernel
theorem d_A_applyDirectly_50 : decode c_A_applyDirectly 50 = .ok (.lcmp, 1) := by decide +kernel
theorem d_A_applyDirectly_51 : decode c_A_applyDirectly 51 = .ok (.ifCond .ne 7, 3) := by decide +kernel
theorem d_A_applyDirectly_54 : decode c_A_applyDirectly 54 = .ok (.iconst 0, 1) := by decide +kernel
theorem d_A_applyDirectly_55 : decode c_A_applyDirectly 55 = .ok (.goto 6, 3) := by decide +kernel
theorem d_A_applyDirectly_58 : decode c_A_applyDirectly 58 = .ok (.sipush 8192, 3) := by decide +kernel
theorem d_A_applyDirectly_61 : decode c_A_applyDirectly 61 = .ok (.ior, 1) := by decide +kernel
theorem d_A_applyDirectly_62 : decode c_A_applyDirectly 62 = .ok (.putfield 44, 3) := by decide +kernel
theorem d_A_applyDirectly_65 : decode c_A_applyDirectly 65 = .ok (.aload_n 0, 1) := by decide +kernel
theorem d_A_applyDirectly_66 : decode c_A_applyDirectly 66 = .ok (.getfield 22, 3) := by decide +kernel
theorem d_A_applyDirectly_69 : decode c_A_applyDirectly 69 = .ok (.iload_n 1, 1) := by decide +kernel
theorem d_A_applyDirectly_70 : decode c_A_applyDirectly 70 = .ok (.laload, 1) := by decide +kernel
theorem d_A_applyDirectly_71 : decode c_A_applyDirectly 71 = .ok (.lstore 4, 2) := by decide +kernel
theorem d_A_applyDirectly_73 : decode c_A_applyDirectly 73 = .ok (.iconst 0, 1) := by decide +kernel
theorem d_A_applyDirectly_74 : decode c_A_applyDirectly 74 = .ok (.istore 6, 2) := by decide +kernel
theorem d_A_applyDirectly_76 : decode c_A_applyDirectly 76 = .ok (.iload 6, 2) := by decide +kernel
theorem d_A_applyDirectly_78 : decode c_A_applyDirectly 78 = .ok (.bipush 64, 2) := by decide +kernel
theorem d_A_applyDirectly_80 : decode c_A_applyDirectly 80 = .ok (.if_icmp .ge 50, 3) := by decide +kernel
theorem d_A_applyDirectly_83 : decode c_A_applyDirectly 83 = .ok (.lload 4, 2) := by decide +kernel
theorem d_A_applyDirectly_85 : decode c_A_applyDirectly 85 = .ok (.iload 6, 2) := by decide +kernel
theorem d_A_applyDirectly_87 : decode c_A_applyDirectly 87 = .ok (.invokestatic 62, 3) := by decide +kernel
theorem d_A_applyDirectly_90 : decode c_A_applyDirectly 90 = .ok (.ifCond .eq 34, 3) := by decide +kernel
theorem d_A_applyDirectly_93 : decode c_A_applyDirectly 93 = .ok (.aload_n 0, 1) := by decide +kernel
theorem d_A_applyDirectly_94 : decode c_A_applyDirectly 94 = .ok (.getfield 28, 3) := by decide +kernel
theorem d_A_applyDirectly_97 : decode c_A_applyDirectly 97 = .ok (.iload 6, 2) := by decide +kernel
theorem d_A_applyDirectly_99 : decode c_A_applyDirectly 99 = .ok (.bipush 8, 2) := by decide +kernel
theorem d_A_applyDirectly_101 : decode c_A_applyDirectly 101 = .ok (.idiv, 1) := by decide +kernel
theorem d_A_applyDirectly_102 : decode c_A_applyDirectly 102 = .ok (.invokevirtual 130, 3) := by decide +kernel
theorem d_A_applyDirectly_105 : decode c_A_applyDirectly 105 = .ok (.iload_n 3, 1) := by decide +kernel
theorem d_A_applyDirectly_106 : decode c_A_applyDirectly 106 = .ok (.if_icmp .ne 18, 3) := by decide +kernel
theorem d_A_applyDirectly_109 : decode c_A_applyDirectly 109 = .ok (.aload_n 0, 1) := by decide +kernel
theorem d_A_applyDirectly_110 : decode c_A_applyDirectly 110 = .ok (.iload 6, 2) := by decide +kernel
theorem d_A_applyDirectly_112 : decode c_A_applyDirectly 112 = .ok (.bipush 8, 2) := by decide +kernel
theorem d_A_applyDirectly_114 : decode c_A_applyDirectly 114 = .ok (.idiv, 1) := by decide +kernel
theorem d_A_applyDirectly_115 : decode c_A_applyDirectly 115 = .ok (.iload 6, 2) := by decide +kernel
theorem d_A_applyDirectly_117 : decode c_A_applyDirectly 117 = .ok (.bipush 8, 2) := by decide +kernel
theorem d_A_applyDirectly_119 : decode c_A_applyDirectly 119 = .ok (.irem, 1) := by decide +kernel
theorem d_A_applyDirectly_120 : decode c_A_applyDirectly 120 = .ok (.iload_n 2, 1) := by decide +kernel
theorem d_A_applyDirectly_121 : decode c_A_applyDirectly 121 = .ok (.invokevirtual 133, 3) := by decide +kernel
theorem d_A_applyDirectly_124 : decode c_A_applyDirectly 124 = .ok (.iinc 6 1, 3) := by decide +kernel
theorem d_A_applyDirectly_127 : decode c_A_applyDirectly 127 = .ok (.goto (-51), 3) := by decide +kernel
theorem d_A_applyDirectly_130 : decode c_A_applyDirectly 130 = .ok (.return_, 1) := by decide +kernel
theorem d_A_enter_0 : decode c_A_enter 0 = .ok (.aload_n 0, 1) := by decide +kernel
theorem d_A_enter_1 : decode c_A_enter 1 = .ok (.getfield 25, 3) := by decide +kernel
theorem d_A_enter_4 : decode c_A_enter 4 = .ok (.aload_n 0, 1) := by decide +kernel
theorem d_A_enter_5 : decode c_A_enter 5 = .ok (.getfield 91, 3) := by decide +kernel
theorem d_A_enter_8 : decode c_A_enter 8 = .ok (.dup2, 1) := by decide +kernel
theorem d_A_enter_9 : decode c_A_enter 9 = .ok (.iaload, 1) := by decide +kernel
theorem d_A_enter_10 : decode c_A_enter 10 = .ok (.iconst 1, 1) := by decide +kernel
theorem d_A_enter_11 : decode c_A_enter 11 = .ok (.iload_n 1, 1) := by decide +kernel
theorem d_A_enter_12 : decode c_A_enter 12 = .ok (.ishl, 1) := by decide +kernel
theorem d_A_enter_13 : decode c_A_enter 13 = .ok (.ior, 1) := by decide +kernel
theorem d_A_enter_14 : decode c_A_enter 14 = .ok (.iastore, 1) := by decide +kernel
theorem d_A_enter_15 : decode c_A_enter 15 = .ok (.aload_n 0, 1) := by decide +kernel
theorem d_A_enter_16 : decode c_A_enter 16 = .ok (.iload_n 1, 1) := by decide +kernel
theorem d_A_enter_17 : decode c_A_enter 17 = .ok (.invokevirtual 136, 3) := by decide +kernel
theorem d_A_enter_20 : decode c_A_enter 20 = .ok (.iconst 0, 1) := by decide +kernel
theorem d_A_enter_21 : decode c_A_enter 21 = .ok (.istore 4, 2) := by decide +kernel
theorem d_A_enter_23 : decode c_A_enter 23 = .ok (.iload 4, 2) := by decide +kernel
theorem d_A_enter_25 : decode c_A_enter 25 = .ok (.aload_n 0, 1) := by decide +kernel
theorem d_A_enter_26 : decode c_A_enter 26 = .ok (.getfield 28, 3) := by decide +kernel
theorem d_A_enter_29 : decode c_A_enter 29 = .ok (.iload_n 1, 1) := by decide +kernel
theorem d_A_enter_30 : decode c_A_enter 30 = .ok (.invokevirtual 130, 3) := by decide +kernel
theorem d_A_enter_33 : decode c_A_enter 33 = .ok (.if_icmp .ge 43, 3) := by decide +kernel
theorem d_A_enter_36 : decode c_A_enter 36 = .ok (.iload_n 3, 1) := by decide +kernel
theorem d_A_enter_37 : decode c_A_enter 37 = .ok (.iload 4, 2) := by decide +kernel
theorem d_A_enter_39 : decode c_A_enter 39 = .ok (.iadd, 1) := by decide +kernel
theorem d_A_enter_40 : decode c_A_enter 40 = .ok (.istore 5, 2) := by decide +kernel
theorem d_A_enter_42 : decode c_A_enter 42 = .ok (.aload_n 0, 1) := by decide +kernel
theorem d_A_enter_43 : decode c_A_enter 43 = .ok (.iload_n 1, 1) := by decide +kernel
theorem d_A_enter_44 : decode c_A_enter 44 = .ok (.iload 4, 2) := by decide +kernel
theorem d_A_enter_46 : decode c_A_enter 46 = .ok (.aload_n 0, 1) := by decide +kernel
theorem d_A_enter_47 : decode c_A_enter 47 = .ok (.getfield 94, 3) := by decide +kernel
theorem d_A_enter_50 : decode c_A_enter 50 = .ok (.invokestatic 48, 3) := by decide +kernel
theorem d_A_enter_53 : decode c_A_enter 53 = .ok (.aload_n 0, 1) := by decide +kernel
theorem d_A_enter_54 : decode c_A_enter 54 = .ok (.getfield 19, 3) := by decide +kernel
theorem d_A_enter_57 : decode c_A_enter 57 = .ok (.iload 5, 2) := by decide +kernel
theorem d_A_enter_59 : decode c_A_enter 59 = .ok (.iaload, 1) := by decide +kernel
theorem d_A_enter_60 : decode c_A_enter 60 = .ok (.aload_n 0, 1) := by decide +kernel
theorem d_A_enter_61 : decode c_A_enter 61 = .ok (.getfield 22, 3) := by decide +kernel
theorem d_A_enter_64 : decode c_A_enter 64 = .ok (.iload 5, 2) := by decide +kernel
theorem d_A_enter_66 : decode c_A_enter 66 = .ok (.laload, 1) := by decide +kernel
theorem d_A_enter_67 : decode c_A_enter 67 = .ok (.invokevirtual 140, 3) := by decide +kernel
theorem d_A_enter_70 : decode c_A_enter 70 = .ok (.iinc 4 1, 3) := by decide +kernel
theorem d_A_enter_73 : decode c_A_enter 73 = .ok (.goto (-50), 3) := by decide +kernel
theorem d_A_enter_76 : decode c_A_enter 76 = .ok (.aload_n 0, 1) := by decide +kernel
theorem d_A_enter_77 : decode c_A_enter 77 = .ok (.getfield 28, 3) := by decide +kernel
theorem d_A_enter_80 : decode c_A_enter 80 = .ok (.iload_n 1, 1) := by decide +kernel
theorem d_A_enter_81 : decode c_A_enter 81 = .ok (.invokevirtual 144, 3) := by decide +kernel
theorem d_A_enter_84 : decode c_A_enter 84 = .ok (.istore 4, 2) := by decide +kernel
theorem d_A_enter_86 : decode c_A_enter 86 = .ok (.iconst 0, 1) := by decide +kernel
theorem d_A_enter_87 : decode c_A_enter 87 = .ok (.istore 5, 2) := by decide +kernel
theorem d_A_enter_89 : decode c_A_enter 89 = .ok (.iload 5, 2) := by decide +kernel
theorem d_A_enter_91 : decode c_A_enter 91 = .ok (.iload_n 1, 1) := by decide +kernel
theorem d_A_enter_92 : decode c_A_enter 92 = .ok (.if_icmp .ge 26, 3) := by decide +kernel
theorem d_A_enter_95 : decode c_A_enter 95 = .ok (.iload 4, 2) := by decide +kernel
theorem d_A_enter_97 : decode c_A_enter 97 = .ok (.iload 5, 2) := by decide +kernel
theorem d_A_enter_99 : decode c_A_enter 99 = .ok (.invokestatic 110, 3) := by decide +kernel
theorem d_A_enter_102 : decode c_A_enter 102 = .ok (.ifCond .eq 10, 3) := by decide +kernel
theorem d_A_enter_105 : decode c_A_enter 105 = .ok (.aload_n 0, 1) := by decide +kernel
theorem d_A_enter_106 : decode c_A_enter 106 = .ok (.iload 5, 2) := by decide +kernel
theorem d_A_enter_108 : decode c_A_enter 108 = .ok (.iload_n 2, 1) := by decide +kernel
theorem d_A_enter_109 : decode c_A_enter 109 = .ok (.invokevirtual 147, 3) := by decide +kernel
theorem d_A_enter_112 : decode c_A_enter 112 = .ok (.iinc 5 1, 3) := by decide +kernel
theorem d_A_enter_115 : decode c_A_enter 115 = .ok (.goto (-26), 3) := by decide +kernel
theorem d_A_enter_118 : decode c_A_enter 118 = .ok (.return_, 1) := by decide +kernel
theorem d_A_addState_0 : decode c_A_addState 0 = .ok (.aload_n 0, 1) := by decide +kernel
theorem d_A_addState_1 : decode c_A_addState 1 = .ok (.getfield 36, 3) := by decide +kernel
theorem d_A_addState_4 : decode c_A_addState 4 = .ok (.iload_n 1, 1) := by decide +kernel
theorem d_A_addState_5 : decode c_A_addState 5 = .ok (.aload_n 0, 1) := by decide +kernel
theorem d_A_addState_6 : decode c_A_addState 6 = .ok (.getfield 94, 3) := by decide +kernel
theorem d_A_addState_9 : decode c_A_addState 9 = .ok (.invokestatic 55, 3) := by decide +kernel
theorem d_A_addState_12 : decode c_A_addState 12 = .ok (.lor, 1) := by decide +kernel
theorem d_A_addState_13 : decode c_A_addState 13 = .ok (.lstore_n 2, 1) := by decide +kernel
theorem d_A_addState_14 : decode c_A_addState 14 = .ok (.lload_n 2, 1) := by decide +kernel
theorem d_A_addState_15 : decode c_A_addState 15 = .ok (.aload_n 0, 1) := by decide +kernel
theorem d_A_addState_16 : decode c_A_addState 16 = .ok (.getfield 36, 3) := by decide +kernel
theorem d_A_addState_19 : decode c_A_addState 19 = .ok (.lcmp, 1) := by decide +kernel
theorem d_A_addState_20 : decode c_A_addState 20 = .ok (.ifCond .eq 13, 3) := by decide +kernel
theorem d_A_addState_23 : decode c_A_addState 23 = .ok (.aload_n 0, 1) := by decide +kernel
theorem d_A_addState_24 : decode c_A_addState 24 = .ok (.lload_n 2, 1) := by decide +kernel
theorem d_A_addState_25 : decode c_A_addState 25 = .ok (.putfield 36, 3) := by decide +kernel
theorem d_A_addState_28 : decode c_A_addState 28 = .ok (.aload_n 0, 1) := by decide +kernel
theorem d_A_addState_29 : decode c_A_addState 29 = .ok (.iconst 1, 1) := by decide +kernel
theorem d_A_addState_30 : decode c_A_addState 30 = .ok (.putfield 59, 3) := by decide +kernel
theorem d_A_addState_33 : decode c_A_addState 33 = .ok (.return_, 1) := by decide +kernel
theorem d_A_widen_0 : decode c_A_widen 0 = .ok (.aload_n 0, 1) := by decide +kernel
theorem d_A_widen_1 : decode c_A_widen 1 = .ok (.getfield 11, 3) := by decide +kernel
theorem d_A_widen_4 : decode c_A_widen 4 = .ok (.iload_n 1, 1) := by decide +kernel
theorem d_A_widen_5 : decode c_A_widen 5 = .ok (.iaload, 1) := by decide +kernel
theorem d_A_widen_6 : decode c_A_widen 6 = .ok (.iload_n 2, 1) := by decide +kernel
theorem d_A_widen_7 : decode c_A_widen 7 = .ok (.ior, 1) := by decide +kernel
theorem d_A_widen_8 : decode c_A_widen 8 = .ok (.istore 5, 2) := by decide +kernel
theorem d_A_widen_10 : decode c_A_widen 10 = .ok (.aload_n 0, 1) := by decide +kernel
theorem d_A_widen_11 : decode c_A_widen 11 = .ok (.getfield 15, 3) := by decide +kernel
theorem d_A_widen_14 : decode c_A_widen 14 = .ok (.iload_n 1, 1) := by decide +kernel
theorem d_A_widen_15 : decode c_A_widen 15 = .ok (.laload, 1) := by decide +kernel
theorem d_A_widen_16 : decode c_A_widen 16 = .ok (.lload_n 3, 1) := by decide +kernel
theorem d_A_widen_17 : decode c_A_widen 17 = .ok (.lor, 1) := by decide +kernel
theorem d_A_widen_18 : decode c_A_widen 18 = .ok (.lstore 6, 2) := by decide +kernel
theorem d_A_widen_20 : decode c_A_widen 20 = .ok (.iload 5, 2) := by decide +kernel
theorem d_A_widen_22 : decode c_A_widen 22 = .ok (.aload_n 0, 1) := by decide +kernel
theorem d_A_widen_23 : decode c_A_widen 23 = .ok (.getfield 11, 3) := by decide +kernel
theorem d_A_widen_26 : decode c_A_widen 26 = .ok (.iload_n 1, 1) := by decide +kernel
theorem d_A_widen_27 : decode c_A_widen 27 = .ok (.iaload, 1) := by decide +kernel
theorem d_A_widen_28 : decode c_A_widen 28 = .ok (.if_icmp .ne 15, 3) := by decide +kernel
theorem d_A_widen_31 : decode c_A_widen 31 = .ok (.lload 6, 2) := by decide +kernel
theorem d_A_widen_33 : decode c_A_widen 33 = .ok (.aload_n 0, 1) := by decide +kernel
theorem d_A_widen_34 : decode c_A_widen 34 = .ok (.getfield 15, 3) := by decide +kernel
theorem d_A_widen_37 : decode c_A_widen 37 = .ok (.iload_n 1, 1) := by decide +kernel
theorem d_A_widen_38 : decode c_A_widen 38 = .ok (.laload, 1) := by decide +kernel
theorem d_A_widen_39 : decode c_A_widen 39 = .ok (.lcmp, 1) := by decide +kernel
theorem d_A_widen_40 : decode c_A_widen 40 = .ok (.ifCond .eq 24, 3) := by decide +kernel
theorem d_A_widen_43 : decode c_A_widen 43 = .ok (.aload_n 0, 1) := by decide +kernel
theorem d_A_widen_44 : decode c_A_widen 44 = .ok (.getfield 11, 3) := by decide +kernel
theorem d_A_widen_47 : decode c_A_widen 47 = .ok (.iload_n 1, 1) := by decide +kernel
theorem d_A_widen_48 : decode c_A_widen 48 = .ok (.iload 5, 2) := by decide +kernel
theorem d_A_widen_50 : decode c_A_widen 50 = .ok (.iastore, 1) := by decide +kernel
theorem d_A_widen_51 : decode c_A_widen 51 = .ok (.aload_n 0, 1) := by decide +kernel
theorem d_A_widen_52 : decode c_A_widen 52 = .ok (.getfield 15, 3) := by decide +kernel
theorem d_A_widen_55 : decode c_A_widen 55 = .ok (.iload_n 1, 1) := by decide +kernel
theorem d_A_widen_56 : decode c_A_widen 56 = .ok (.lload 6, 2) := by decide +kernel
theorem d_A_widen_58 : decode c_A_widen 58 = .ok (.lastore, 1) := by decide +kernel
theorem d_A_widen_59 : decode c_A_widen 59 = .ok (.aload_n 0, 1) := by decide +kernel
theorem d_A_widen_60 : decode c_A_widen 60 = .ok (.iconst 1, 1) := by decide +kernel
theorem d_A_widen_61 : decode c_A_widen 61 = .ok (.putfield 59, 3) := by decide +kernel
theorem d_A_widen_64 : decode c_A_widen 64 = .ok (.return_, 1) := by decide +kernel
theorem d_A_carryOver_0 : decode c_A_carryOver 0 = .ok (.iconst 0, 1) := by decide +kernel
theorem d_A_carryOver_1 : decode c_A_carryOver 1 = .ok (.istore_n 3, 1) := by decide +kernel
theorem d_A_carryOver_2 : decode c_A_carryOver 2 = .ok (.iload_n 3, 1) := by decide +kernel
theorem d_A_carryOver_3 : decode c_A_carryOver 3 = .ok (.aload_n 0, 1) := by decide +kernel
theorem d_A_carryOver_4 : decode c_A_carryOver 4 = .ok (.getfield 28, 3) := by decide +kernel
theorem d_A_carryOver_7 : decode c_A_carryOver 7 = .ok (.iload_n 1, 1) := by decide +kernel
theorem d_A_carryOver_8 : decode c_A_carryOver 8 = .ok (.invokevirtual 130, 3) := by decide +kernel
theorem d_A_carryOver_11 : decode c_A_carryOver 11 = .ok (.if_icmp .ge 44, 3) := by decide +kernel
theorem d_A_carryOver_14 : decode c_A_carryOver 14 = .ok (.iload_n 1, 1) := by decide +kernel
theorem d_A_carryOver_15 : decode c_A_carryOver 15 = .ok (.iload_n 3, 1) := by decide +kernel
theorem d_A_carryOver_16 : decode c_A_carryOver 16 = .ok (.iload_n 2, 1) := by decide +kernel
theorem d_A_carryOver_17 : decode c_A_carryOver 17 = .ok (.invokestatic 48, 3) := by decide +kernel
theorem d_A_carryOver_20 : decode c_A_carryOver 20 = .ok (.istore 4, 2) := by decide +kernel
theorem d_A_carryOver_22 : decode c_A_carryOver 22 = .ok (.aload_n 0, 1) := by decide +kernel
theorem d_A_carryOver_23 : decode c_A_carryOver 23 = .ok (.iload_n 1, 1) := by decide +kernel
theorem d_A_carryOver_24 : decode c_A_carryOver 24 = .ok (.iload_n 3, 1) := by decide +kernel
theorem d_A_carryOver_25 : decode c_A_carryOver 25 = .ok (.aload_n 0, 1) := by decide +kernel
theorem d_A_carryOver_26 : decode c_A_carryOver 26 = .ok (.getfield 94, 3) := by decide +kernel
theorem d_A_carryOver_29 : decode c_A_carryOver 29 = .ok (.invokestatic 48, 3) := by decide +kernel
theorem d_A_carryOver_32 : decode c_A_carryOver 32 = .ok (.aload_n 0, 1) := by decide +kernel
theorem d_A_carryOver_33 : decode c_A_carryOver 33 = .ok (.getfield 11, 3) := by decide +kernel
theorem d_A_carryOver_36 : decode c_A_carryOver 36 = .ok (.iload 4, 2) := by decide +kernel
theorem d_A_carryOver_38 : decode c_A_carryOver 38 = .ok (.iaload, 1) := by decide +kernel
theorem d_A_carryOver_39 : decode c_A_carryOver 39 = .ok (.aload_n 0, 1) := by decide +kernel
theorem d_A_carryOver_40 : decode c_A_carryOver 40 = .ok (.getfield 15, 3) := by decide +kernel
theorem d_A_carryOver_43 : decode c_A_carryOver 43 = .ok (.iload 4, 2) := by decide +kernel
theorem d_A_carryOver_45 : decode c_A_carryOver 45 = .ok (.laload, 1) := by decide +kernel
theorem d_A_carryOver_46 : decode c_A_carryOver 46 = .ok (.invokevirtual 140, 3) := by decide +kernel
theorem d_A_carryOver_49 : decode c_A_carryOver 49 = .ok (.iinc 3 1, 3) := by decide +kernel
theorem d_A_carryOver_52 : decode c_A_carryOver 52 = .ok (.goto (-50), 3) := by decide +kernel
theorem d_A_carryOver_55 : decode c_A_carryOver 55 = .ok (.return_, 1) := by decide +kernel
theorem d_A_loadSums_0 : decode c_A_loadSums 0 = .ok (.iconst 0, 1) := by decide +kernel
theorem d_A_loadSums_1 : decode c_A_loadSums 1 = .ok (.istore_n 3, 1) := by decide +kernel
theorem d_A_loadSums_2 : decode c_A_loadSums 2 = .ok (.iconst 0, 1) := by decide +kernel
theorem d_A_loadSums_3 : decode c_A_loadSums 3 = .ok (.istore 4, 2) := by decide +kernel
theorem d_A_loadSums_5 : decode c_A_loadSums 5 = .ok (.iload 4, 2) := by decide +kernel
theorem d_A_loadSums_7 : decode c_A_loadSums 7 = .ok (.bipush 10, 2) := by decide +kernel
theorem d_A_loadSums_9 : decode c_A_loadSums 9 = .ok (.if_icmp .ge 39, 3) := by decide +kernel
theorem d_A_loadSums_12 : decode c_A_loadSums 12 = .ok (.iload_n 1, 1) := by decide +kernel
theorem d_A_loadSums_13 : decode c_A_loadSums 13 = .ok (.iload 4, 2) := by decide +kernel
theorem d_A_loadSums_15 : decode c_A_loadSums 15 = .ok (.invokestatic 110, 3) := by decide +kernel
theorem d_A_loadSums_18 : decode c_A_loadSums 18 = .ok (.ifCond .eq 24, 3) := by decide +kernel
theorem d_A_loadSums_21 : decode c_A_loadSums 21 = .ok (.iload_n 2, 1) := by decide +kernel
theorem d_A_loadSums_22 : decode c_A_loadSums 22 = .ok (.iload 4, 2) := by decide +kernel
theorem d_A_loadSums_24 : decode c_A_loadSums 24 = .ok (.ishl, 1) := by decide +kernel
theorem d_A_loadSums_25 : decode c_A_loadSums 25 = .ok (.istore 5, 2) := by decide +kernel
theorem d_A_loadSums_27 : decode c_A_loadSums 27 = .ok (.iload_n 3, 1) := by decide +kernel
theorem d_A_loadSums_28 : decode c_A_loadSums 28 = .ok (.iload 5, 2) := by decide +kernel
theorem d_A_loadSums_30 : decode c_A_loadSums 30 = .ok (.iload 5, 2) := by decide +kernel
theorem d_A_loadSums_32 : decode c_A_loadSums 32 = .ok (.bipush 10, 2) := by decide +kernel
theorem d_A_loadSums_34 : decode c_A_loadSums 34 = .ok (.iushr, 1) := by decide +kernel
theorem d_A_loadSums_35 : decode c_A_loadSums 35 = .ok (.ior, 1) := by decide +kernel
theorem d_A_loadSums_36 : decode c_A_loadSums 36 = .ok (.sipush 1023, 3) := by decide +kernel
theorem d_A_loadSums_39 : decode c_A_loadSums 39 = .ok (.iand, 1) := by decide +kernel
theorem d_A_loadSums_40 : decode c_A_loadSums 40 = .ok (.ior, 1) := by decide +kernel
theorem d_A_loadSums_41 : decode c_A_loadSums 41 = .ok (.istore_n 3, 1) := by decide +kernel
theorem d_A_loadSums_42 : decode c_A_loadSums 42 = .ok (.iinc 4 1, 3) := by decide +kernel
theorem d_A_loadSums_45 : decode c_A_loadSums 45 = .ok (.goto (-40), 3) := by decide +kernel
theorem d_A_loadSums_48 : decode c_A_loadSums 48 = .ok (.aload_n 0, 1) := by decide +kernel
theorem d_A_loadSums_49 : decode c_A_loadSums 49 = .ok (.getfield 19, 3) := by decide +kernel
theorem d_A_loadSums_52 : decode c_A_loadSums 52 = .ok (.iconst 4, 1) := by decide +kernel
theorem d_A_loadSums_53 : decode c_A_loadSums 53 = .ok (.iload_n 3, 1) := by decide +kernel
theorem d_A_loadSums_54 : decode c_A_loadSums 54 = .ok (.iastore, 1) := by decide +kernel
theorem d_A_loadSums_55 : decode c_A_loadSums 55 = .ok (.iload_n 3, 1) := by decide +kernel
theorem d_A_loadSums_56 : decode c_A_loadSums 56 = .ok (.ifCond .eq 7, 3) := by decide +kernel
theorem d_A_loadSums_59 : decode c_A_loadSums 59 = .ok (.iconst 1, 1) := by decide +kernel
theorem d_A_loadSums_60 : decode c_A_loadSums 60 = .ok (.goto 4, 3) := by decide +kernel
theorem d_A_loadSums_63 : decode c_A_loadSums 63 = .ok (.iconst 0, 1) := by decide +kernel
theorem d_A_loadSums_64 : decode c_A_loadSums 64 = .ok (.ireturn, 1) := by decide +kernel
theorem d_A_isMade_0 : decode c_A_isMade 0 = .ok (.aload_n 0, 1) := by decide +kernel
theorem d_A_isMade_1 : decode c_A_isMade 1 = .ok (.getfield 32, 3) := by decide +kernel
theorem d_A_isMade_4 : decode c_A_isMade 4 = .ok (.ireturn, 1) := by decide +kernel
theorem d_A_flowFrom_0 : decode c_A_flowFrom 0 = .ok (.aload_n 0, 1) := by decide +kernel
theorem d_A_flowFrom_1 : decode c_A_flowFrom 1 = .ok (.getfield 25, 3) := by decide +kernel
theorem d_A_flowFrom_4 : decode c_A_flowFrom 4 = .ok (.iload_n 1, 1) := by decide +kernel
theorem d_A_flowFrom_5 : decode c_A_flowFrom 5 = .ok (.iaload, 1) := by decide +kernel
theorem d_A_flowFrom_6 : decode c_A_flowFrom 6 = .ok (.ireturn, 1) := by decide +kernel
theorem d_A_contoursOf_0 : decode c_A_contoursOf 0 = .ok (.aload_n 0, 1) := by decide +kernel
theorem d_A_contoursOf_1 : decode c_A_contoursOf 1 = .ok (.getfield 36, 3) := by decide +kernel
theorem d_A_contoursOf_4 : decode c_A_contoursOf 4 = .ok (.iload_n 1, 1) := by decide +kernel
theorem d_A_contoursOf_5 : decode c_A_contoursOf 5 = .ok (.invokestatic 40, 3) := by decide +kernel
theorem d_A_contoursOf_8 : decode c_A_contoursOf 8 = .ok (.ireturn, 1) := by decide +kernel
theorem d_A_contoursIn_0 : decode c_A_contoursIn 0 = .ok (.lload_n 0, 1) := by decide +kernel
theorem d_A_contoursIn_1 : decode c_A_contoursIn 1 = .ok (.bipush 8, 2) := by decide +kernel
theorem d_A_contoursIn_3 : decode c_A_contoursIn 3 = .ok (.iload_n 2, 1) := by decide +kernel
theorem d_A_contoursIn_4 : decode c_A_contoursIn 4 = .ok (.imul, 1) := by decide +kernel
theorem d_A_contoursIn_5 : decode c_A_contoursIn 5 = .ok (.lushr, 1) := by decide +kernel
theorem d_A_contoursIn_6 : decode c_A_contoursIn 6 = .ok (.l2i, 1) := by decide +kernel
theorem d_A_contoursIn_7 : decode c_A_contoursIn 7 = .ok (.sipush 255, 3) := by decide +kernel
theorem d_A_contoursIn_10 : decode c_A_contoursIn 10 = .ok (.iand, 1) := by decide +kernel
theorem d_A_contoursIn_11 : decode c_A_contoursIn 11 = .ok (.ireturn, 1) := by decide +kernel
theorem d_A_constantsIn_0 : decode c_A_constantsIn 0 = .ok (.iconst 0, 1) := by decide +kernel
theorem d_A_constantsIn_1 : decode c_A_constantsIn 1 = .ok (.istore_n 3, 1) := by decide +kernel
theorem d_A_constantsIn_2 : decode c_A_constantsIn 2 = .ok (.iconst 0, 1) := by decide +kernel
theorem d_A_constantsIn_3 : decode c_A_constantsIn 3 = .ok (.istore 4, 2) := by decide +kernel
theorem d_A_constantsIn_5 : decode c_A_constantsIn 5 = .ok (.iload 4, 2) := by decide +kernel
theorem d_A_constantsIn_7 : decode c_A_constantsIn 7 = .ok (.bipush 8, 2) := by decide +kernel
theorem d_A_constantsIn_9 : decode c_A_constantsIn 9 = .ok (.if_icmp .ge 24, 3) := by decide +kernel
theorem d_A_constantsIn_12 : decode c_A_constantsIn 12 = .ok (.iload_n 3, 1) := by decide +kernel
theorem d_A_constantsIn_13 : decode c_A_constantsIn 13 = .ok (.aload_n 0, 1) := by decide +kernel
theorem d_A_constantsIn_14 : decode c_A_constantsIn 14 = .ok (.getfield 11, 3) := by decide +kernel
theorem d_A_constantsIn_17 : decode c_A_constantsIn 17 = .ok (.iload_n 1, 1) := by decide +kernel
theorem d_A_constantsIn_18 : decode c_A_constantsIn 18 = .ok (.iload_n 2, 1) := by decide +kernel
theorem d_A_constantsIn_19 : decode c_A_constantsIn 19 = .ok (.iload 4, 2) := by decide +kernel
theorem d_A_constantsIn_21 : decode c_A_constantsIn 21 = .ok (.invokestatic 48, 3) := by decide +kernel
theorem d_A_constantsIn_24 : decode c_A_constantsIn 24 = .ok (.iaload, 1) := by decide +kernel
theorem d_A_constantsIn_25 : decode c_A_constantsIn 25 = .ok (.ior, 1) := by decide +kernel
theorem d_A_constantsIn_26 : decode c_A_constantsIn 26 = .ok (.istore_n 3, 1) := by decide +kernel
theorem d_A_constantsIn_27 : decode c_A_constantsIn 27 = .ok (.iinc 4 1, 3) := by decide +kernel
theorem d_A_constantsIn_30 : decode c_A_constantsIn 30 = .ok (.goto (-25), 3) := by decide +kernel
theorem d_A_constantsIn_33 : decode c_A_constantsIn 33 = .ok (.iload_n 3, 1) := by decide +kernel
theorem d_A_constantsIn_34 : decode c_A_constantsIn 34 = .ok (.ireturn, 1) := by decide +kernel
theorem d_A_lambdasIn_0 : decode c_A_lambdasIn 0 = .ok (.lconst 0, 1) := by decide +kernel
theorem d_A_lambdasIn_1 : decode c_A_lambdasIn 1 = .ok (.lstore_n 3, 1) := by decide +kernel
theorem d_A_lambdasIn_2 : decode c_A_lambdasIn 2 = .ok (.iconst 0, 1) := by decide +kernel
theorem d_A_lambdasIn_3 : decode c_A_lambdasIn 3 = .ok (.istore 5, 2) := by decide +kernel
theorem d_A_lambdasIn_5 : decode c_A_lambdasIn 5 = .ok (.iload 5, 2) := by decide +kernel
theorem d_A_lambdasIn_7 : decode c_A_lambdasIn 7 = .ok (.bipush 8, 2) := by decide +kernel
theorem d_A_lambdasIn_9 : decode c_A_lambdasIn 9 = .ok (.if_icmp .ge 24, 3) := by decide +kernel
theorem d_A_lambdasIn_12 : decode c_A_lambdasIn 12 = .ok (.lload_n 3, 1) := by decide +kernel
theorem d_A_lambdasIn_13 : decode c_A_lambdasIn 13 = .ok (.aload_n 0, 1) := by decide +kernel
theorem d_A_lambdasIn_14 : decode c_A_lambdasIn 14 = .ok (.getfield 15, 3) := by decide +kernel
theorem d_A_lambdasIn_17 : decode c_A_lambdasIn 17 = .ok (.iload_n 1, 1) := by decide +kernel
theorem d_A_lambdasIn_18 : decode c_A_lambdasIn 18 = .ok (.iload_n 2, 1) := by decide +kernel
theorem d_A_lambdasIn_19 : decode c_A_lambdasIn 19 = .ok (.iload 5, 2) := by decide +kernel
theorem d_A_lambdasIn_21 : decode c_A_lambdasIn 21 = .ok (.invokestatic 48, 3) := by decide +kernel
theorem d_A_lambdasIn_24 : decode c_A_lambdasIn 24 = .ok (.laload, 1) := by decide +kernel
theorem d_A_lambdasIn_25 : decode c_A_lambdasIn 25 = .ok (.lor, 1) := by decide +kernel
theorem d_A_lambdasIn_26 : decode c_A_lambdasIn 26 = .ok (.lstore_n 3, 1) := by decide +kernel
theorem d_A_lambdasIn_27 : decode c_A_lambdasIn 27 = .ok (.iinc 5 1, 3) := by decide +kernel
theorem d_A_lambdasIn_30 : decode c_A_lambdasIn 30 = .ok (.goto (-25), 3) := by decide +kernel
theorem d_A_lambdasIn_33 : decode c_A_lambdasIn 33 = .ok (.iconst 0, 1) := by decide +kernel
theorem d_A_lambdasIn_34 : decode c_A_lambdasIn 34 = .ok (.istore 5, 2) := by decide +kernel
theorem d_A_lambdasIn_36 : decode c_A_lambdasIn 36 = .ok (.iconst 0, 1) := by decide +kernel
theorem d_A_lambdasIn_37 : decode c_A_lambdasIn 37 = .ok (.istore 6, 2) := by decide +kernel
theorem d_A_lambdasIn_39 : decode c_A_lambdasIn 39 = .ok (.iload 6, 2) := by decide +kernel
theorem d_A_lambdasIn_41 : decode c_A_lambdasIn 41 = .ok (.bipush 8, 2) := by decide +kernel
theorem d_A_lambdasIn_43 : decode c_A_lambdasIn 43 = .ok (.if_icmp .ge 27, 3) := by decide +kernel
theorem d_A_lambdasIn_46 : decode c_A_lambdasIn 46 = .ok (.lload_n 3, 1) := by decide +kernel
theorem d_A_lambdasIn_47 : decode c_A_lambdasIn 47 = .ok (.iload 6, 2) := by decide +kernel
theorem d_A_lambdasIn_49 : decode c_A_lambdasIn 49 = .ok (.invokestatic 40, 3) := by decide +kernel
theorem d_A_lambdasIn_52 : decode c_A_lambdasIn 52 = .ok (.ifCond .eq 12, 3) := by decide +kernel
theorem d_A_lambdasIn_55 : decode c_A_lambdasIn 55 = .ok (.iload 5, 2) := by decide +kernel
theorem d_A_lambdasIn_57 : decode c_A_lambdasIn 57 = .ok (.iconst 1, 1) := by decide +kernel
theorem d_A_lambdasIn_58 : decode c_A_lambdasIn 58 = .ok (.iload 6, 2) := by decide +kernel
theorem d_A_lambdasIn_60 : decode c_A_lambdasIn 60 = .ok (.ishl, 1) := by decide +kernel
theorem d_A_lambdasIn_61 : decode c_A_lambdasIn 61 = .ok (.ior, 1) := by decide +kernel
theorem d_A_lambdasIn_62 : decode c_A_lambdasIn 62 = .ok (.istore 5, 2) := by decide +kernel
theorem d_A_lambdasIn_64 : decode c_A_lambdasIn 64 = .ok (.iinc 6 1, 3) := by decide +kernel
theorem d_A_lambdasIn_67 : decode c_A_lambdasIn 67 = .ok (.goto (-28), 3) := by decide +kernel
theorem d_A_lambdasIn_70 : decode c_A_lambdasIn 70 = .ok (.iload 5, 2) := by decide +kernel
theorem d_A_lambdasIn_72 : decode c_A_lambdasIn 72 = .ok (.ireturn, 1) := by decide +kernel
theorem d_A_outcomes_0 : decode c_A_outcomes 0 = .ok (.aload_n 0, 1) := by decide +kernel
theorem d_A_outcomes_1 : decode c_A_outcomes 1 = .ok (.getfield 44, 3) := by decide +kernel
theorem d_A_outcomes_4 : decode c_A_outcomes 4 = .ok (.ireturn, 1) := by decide +kernel
