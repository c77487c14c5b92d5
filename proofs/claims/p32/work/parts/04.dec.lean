theorem dX4_copyRow_6 : decode cX4_copyRow 6 = .ok (.aload_n 1, 1) := by decide +kernel
theorem dX4_copyRow_7 : decode cX4_copyRow 7 = .ok (.arraylength, 1) := by decide +kernel
theorem dX4_copyRow_8 : decode cX4_copyRow 8 = .ok (.invokestatic 242, 3) := by decide +kernel
theorem dX4_copyRow_11 : decode cX4_copyRow 11 = .ok (.invokestatic 247, 3) := by decide +kernel
theorem dX4_copyRow_14 : decode cX4_copyRow 14 = .ok (.return_, 1) := by decide +kernel
theorem dL_cell_0 : decode cL_cell 0 = .ok (.iload_n 1, 1) := by decide +kernel
theorem dL_cell_1 : decode cL_cell 1 = .ok (.aload_n 0, 1) := by decide +kernel
theorem dL_cell_2 : decode cL_cell 2 = .ok (.arraylength, 1) := by decide +kernel
theorem dL_cell_3 : decode cL_cell 3 = .ok (.if_icmp .ge 9, 3) := by decide +kernel
theorem dL_cell_6 : decode cL_cell 6 = .ok (.aload_n 0, 1) := by decide +kernel
theorem dL_cell_7 : decode cL_cell 7 = .ok (.iload_n 1, 1) := by decide +kernel
theorem dL_cell_8 : decode cL_cell 8 = .ok (.iaload, 1) := by decide +kernel
theorem dL_cell_9 : decode cL_cell 9 = .ok (.goto 12, 3) := by decide +kernel
theorem dL_cell_12 : decode cL_cell 12 = .ok (.ldc 7, 2) := by decide +kernel
theorem dL_cell_14 : decode cL_cell 14 = .ok (.iload_n 1, 1) := by decide +kernel
theorem dL_cell_15 : decode cL_cell 15 = .ok (.iconst 5, 1) := by decide +kernel
theorem dL_cell_16 : decode cL_cell 16 = .ok (.iadd, 1) := by decide +kernel
theorem dL_cell_17 : decode cL_cell 17 = .ok (.imul, 1) := by decide +kernel
theorem dL_cell_18 : decode cL_cell 18 = .ok (.ldc 8, 2) := by decide +kernel
theorem dL_cell_20 : decode cL_cell 20 = .ok (.iadd, 1) := by decide +kernel
theorem dL_cell_21 : decode cL_cell 21 = .ok (.ireturn, 1) := by decide +kernel
theorem dL_low_0 : decode cL_low 0 = .ok (.iload_n 0, 1) := by decide +kernel
theorem dL_low_1 : decode cL_low 1 = .ok (.ldc 9, 2) := by decide +kernel
theorem dL_low_3 : decode cL_low 3 = .ok (.iand, 1) := by decide +kernel
theorem dL_low_4 : decode cL_low 4 = .ok (.iload_n 1, 1) := by decide +kernel
theorem dL_low_5 : decode cL_low 5 = .ok (.irem, 1) := by decide +kernel
theorem dL_low_6 : decode cL_low 6 = .ok (.ireturn, 1) := by decide +kernel
theorem dL_crows_0 : decode cL_crows 0 = .ok (.aload_n 1, 1) := by decide +kernel
theorem dL_crows_1 : decode cL_crows 1 = .ok (.iconst 4, 1) := by decide +kernel
theorem dL_crows_2 : decode cL_crows 2 = .ok (.iload_n 0, 1) := by decide +kernel
theorem dL_crows_3 : decode cL_crows 3 = .ok (.imul, 1) := by decide +kernel
theorem dL_crows_4 : decode cL_crows 4 = .ok (.iaload, 1) := by decide +kernel
theorem dL_crows_5 : decode cL_crows 5 = .ok (.aload_n 1, 1) := by decide +kernel
theorem dL_crows_6 : decode cL_crows 6 = .ok (.iconst 4, 1) := by decide +kernel
theorem dL_crows_7 : decode cL_crows 7 = .ok (.iload_n 0, 1) := by decide +kernel
theorem dL_crows_8 : decode cL_crows 8 = .ok (.imul, 1) := by decide +kernel
theorem dL_crows_9 : decode cL_crows 9 = .ok (.iconst 1, 1) := by decide +kernel
theorem dL_crows_10 : decode cL_crows 10 = .ok (.iadd, 1) := by decide +kernel
theorem dL_crows_11 : decode cL_crows 11 = .ok (.iaload, 1) := by decide +kernel
theorem dL_crows_12 : decode cL_crows 12 = .ok (.iadd, 1) := by decide +kernel
theorem dL_crows_13 : decode cL_crows 13 = .ok (.aload_n 1, 1) := by decide +kernel
theorem dL_crows_14 : decode cL_crows 14 = .ok (.iconst 4, 1) := by decide +kernel
theorem dL_crows_15 : decode cL_crows 15 = .ok (.iload_n 0, 1) := by decide +kernel
theorem dL_crows_16 : decode cL_crows 16 = .ok (.imul, 1) := by decide +kernel
theorem dL_crows_17 : decode cL_crows 17 = .ok (.iconst 2, 1) := by decide +kernel
theorem dL_crows_18 : decode cL_crows 18 = .ok (.iadd, 1) := by decide +kernel
theorem dL_crows_19 : decode cL_crows 19 = .ok (.iaload, 1) := by decide +kernel
theorem dL_crows_20 : decode cL_crows 20 = .ok (.iadd, 1) := by decide +kernel
theorem dL_crows_21 : decode cL_crows 21 = .ok (.aload_n 1, 1) := by decide +kernel
theorem dL_crows_22 : decode cL_crows 22 = .ok (.iconst 4, 1) := by decide +kernel
theorem dL_crows_23 : decode cL_crows 23 = .ok (.iload_n 0, 1) := by decide +kernel
theorem dL_crows_24 : decode cL_crows 24 = .ok (.imul, 1) := by decide +kernel
theorem dL_crows_25 : decode cL_crows 25 = .ok (.iconst 3, 1) := by decide +kernel
theorem dL_crows_26 : decode cL_crows 26 = .ok (.iadd, 1) := by decide +kernel
theorem dL_crows_27 : decode cL_crows 27 = .ok (.iaload, 1) := by decide +kernel
theorem dL_crows_28 : decode cL_crows 28 = .ok (.iadd, 1) := by decide +kernel
theorem dL_crows_29 : decode cL_crows 29 = .ok (.ireturn, 1) := by decide +kernel
theorem dL_weighs_0 : decode cL_weighs 0 = .ok (.fconst 0, 1) := by decide +kernel
theorem dL_weighs_1 : decode cL_weighs 1 = .ok (.fstore 6, 2) := by decide +kernel
theorem dL_weighs_3 : decode cL_weighs 3 = .ok (.iconst 0, 1) := by decide +kernel
theorem dL_weighs_4 : decode cL_weighs 4 = .ok (.istore 7, 2) := by decide +kernel
theorem dL_weighs_6 : decode cL_weighs 6 = .ok (.iload 7, 2) := by decide +kernel
theorem dL_weighs_8 : decode cL_weighs 8 = .ok (.aload_n 3, 1) := by decide +kernel
theorem dL_weighs_9 : decode cL_weighs 9 = .ok (.bipush 10, 2) := by decide +kernel
theorem dL_weighs_11 : decode cL_weighs 11 = .ok (.iaload, 1) := by decide +kernel
theorem dL_weighs_12 : decode cL_weighs 12 = .ok (.if_icmp .ge 90, 3) := by decide +kernel
theorem dL_weighs_15 : decode cL_weighs 15 = .ok (.aload 4, 2) := by decide +kernel
theorem dL_weighs_17 : decode cL_weighs 17 = .ok (.iconst 5, 1) := by decide +kernel
theorem dL_weighs_18 : decode cL_weighs 18 = .ok (.iload 7, 2) := by decide +kernel
theorem dL_weighs_20 : decode cL_weighs 20 = .ok (.imul, 1) := by decide +kernel
theorem dL_weighs_21 : decode cL_weighs 21 = .ok (.iaload, 1) := by decide +kernel
theorem dL_weighs_22 : decode cL_weighs 22 = .ok (.iload_n 0, 1) := by decide +kernel
theorem dL_weighs_23 : decode cL_weighs 23 = .ok (.if_icmp .ne 73, 3) := by decide +kernel
theorem dL_weighs_26 : decode cL_weighs 26 = .ok (.aload 4, 2) := by decide +kernel
theorem dL_weighs_28 : decode cL_weighs 28 = .ok (.iconst 5, 1) := by decide +kernel
theorem dL_weighs_29 : decode cL_weighs 29 = .ok (.iload 7, 2) := by decide +kernel
theorem dL_weighs_31 : decode cL_weighs 31 = .ok (.imul, 1) := by decide +kernel
theorem dL_weighs_32 : decode cL_weighs 32 = .ok (.iconst 4, 1) := by decide +kernel
theorem dL_weighs_33 : decode cL_weighs 33 = .ok (.iadd, 1) := by decide +kernel
theorem dL_weighs_34 : decode cL_weighs 34 = .ok (.iaload, 1) := by decide +kernel
theorem dL_weighs_35 : decode cL_weighs 35 = .ok (.i2f, 1) := by decide +kernel
theorem dL_weighs_36 : decode cL_weighs 36 = .ok (.ldc 10, 2) := by decide +kernel
theorem dL_weighs_38 : decode cL_weighs 38 = .ok (.fdiv, 1) := by decide +kernel
theorem dL_weighs_39 : decode cL_weighs 39 = .ok (.fstore 8, 2) := by decide +kernel
theorem dL_weighs_41 : decode cL_weighs 41 = .ok (.fload 6, 2) := by decide +kernel
theorem dL_weighs_43 : decode cL_weighs 43 = .ok (.aload 4, 2) := by decide +kernel
theorem dL_weighs_45 : decode cL_weighs 45 = .ok (.iconst 5, 1) := by decide +kernel
theorem dL_weighs_46 : decode cL_weighs 46 = .ok (.iload 7, 2) := by decide +kernel
theorem dL_weighs_48 : decode cL_weighs 48 = .ok (.imul, 1) := by decide +kernel
theorem dL_weighs_49 : decode cL_weighs 49 = .ok (.iconst 3, 1) := by decide +kernel
theorem dL_weighs_50 : decode cL_weighs 50 = .ok (.iadd, 1) := by decide +kernel
theorem dL_weighs_51 : decode cL_weighs 51 = .ok (.iaload, 1) := by decide +kernel
theorem dL_weighs_52 : decode cL_weighs 52 = .ok (.iload_n 1, 1) := by decide +kernel
theorem dL_weighs_53 : decode cL_weighs 53 = .ok (.if_icmp .ne 19, 3) := by decide +kernel
theorem dL_weighs_56 : decode cL_weighs 56 = .ok (.fload 8, 2) := by decide +kernel
theorem dL_weighs_58 : decode cL_weighs 58 = .ok (.aload 4, 2) := by decide +kernel
theorem dL_weighs_60 : decode cL_weighs 60 = .ok (.iconst 5, 1) := by decide +kernel
theorem dL_weighs_61 : decode cL_weighs 61 = .ok (.iload 7, 2) := by decide +kernel
theorem dL_weighs_63 : decode cL_weighs 63 = .ok (.imul, 1) := by decide +kernel
theorem dL_weighs_64 : decode cL_weighs 64 = .ok (.iconst 1, 1) := by decide +kernel
theorem dL_weighs_65 : decode cL_weighs 65 = .ok (.iadd, 1) := by decide +kernel
theorem dL_weighs_66 : decode cL_weighs 66 = .ok (.iaload, 1) := by decide +kernel
theorem dL_weighs_67 : decode cL_weighs 67 = .ok (.i2f, 1) := by decide +kernel
theorem dL_weighs_68 : decode cL_weighs 68 = .ok (.fmul, 1) := by decide +kernel
theorem dL_weighs_69 : decode cL_weighs 69 = .ok (.goto 4, 3) := by decide +kernel
theorem dL_weighs_72 : decode cL_weighs 72 = .ok (.fconst 0, 1) := by decide +kernel
theorem dL_weighs_73 : decode cL_weighs 73 = .ok (.fadd, 1) := by decide +kernel
theorem dL_weighs_74 : decode cL_weighs 74 = .ok (.fstore 6, 2) := by decide +kernel
theorem dL_weighs_76 : decode cL_weighs 76 = .ok (.fload 6, 2) := by decide +kernel
theorem dL_weighs_78 : decode cL_weighs 78 = .ok (.aload 5, 2) := by decide +kernel
theorem dL_weighs_80 : decode cL_weighs 80 = .ok (.iconst 4, 1) := by decide +kernel
theorem dL_weighs_81 : decode cL_weighs 81 = .ok (.iload 7, 2) := by decide +kernel
theorem dL_weighs_83 : decode cL_weighs 83 = .ok (.imul, 1) := by decide +kernel
theorem dL_weighs_84 : decode cL_weighs 84 = .ok (.iload_n 1, 1) := by decide +kernel
theorem dL_weighs_85 : decode cL_weighs 85 = .ok (.iadd, 1) := by decide +kernel
theorem dL_weighs_86 : decode cL_weighs 86 = .ok (.iaload, 1) := by decide +kernel
theorem dL_weighs_87 : decode cL_weighs 87 = .ok (.iload_n 2, 1) := by decide +kernel
theorem dL_weighs_88 : decode cL_weighs 88 = .ok (.imul, 1) := by decide +kernel
theorem dL_weighs_89 : decode cL_weighs 89 = .ok (.i2f, 1) := by decide +kernel
theorem dL_weighs_90 : decode cL_weighs 90 = .ok (.ldc 11, 2) := by decide +kernel
theorem dL_weighs_92 : decode cL_weighs 92 = .ok (.fdiv, 1) := by decide +kernel
theorem dL_weighs_93 : decode cL_weighs 93 = .ok (.fadd, 1) := by decide +kernel
theorem dL_weighs_94 : decode cL_weighs 94 = .ok (.fstore 6, 2) := by decide +kernel
theorem dL_weighs_96 : decode cL_weighs 96 = .ok (.iinc 7 1, 3) := by decide +kernel
theorem dL_weighs_99 : decode cL_weighs 99 = .ok (.goto (-93), 3) := by decide +kernel
theorem dL_weighs_102 : decode cL_weighs 102 = .ok (.fload 6, 2) := by decide +kernel
theorem dL_weighs_104 : decode cL_weighs 104 = .ok (.freturn, 1) := by decide +kernel
theorem dL_speaker_0 : decode cL_speaker 0 = .ok (.bipush (-5), 2) := by decide +kernel
theorem dL_speaker_2 : decode cL_speaker 2 = .ok (.istore_n 3, 1) := by decide +kernel
theorem dL_speaker_3 : decode cL_speaker 3 = .ok (.aload_n 1, 1) := by decide +kernel
theorem dL_speaker_4 : decode cL_speaker 4 = .ok (.bipush 10, 2) := by decide +kernel
theorem dL_speaker_6 : decode cL_speaker 6 = .ok (.iaload, 1) := by decide +kernel
theorem dL_speaker_7 : decode cL_speaker 7 = .ok (.iconst 1, 1) := by decide +kernel
theorem dL_speaker_8 : decode cL_speaker 8 = .ok (.isub, 1) := by decide +kernel
theorem dL_speaker_9 : decode cL_speaker 9 = .ok (.istore 4, 2) := by decide +kernel
theorem dL_speaker_11 : decode cL_speaker 11 = .ok (.iload 4, 2) := by decide +kernel
theorem dL_speaker_13 : decode cL_speaker 13 = .ok (.ifCond .lt 75, 3) := by decide +kernel
theorem dL_speaker_16 : decode cL_speaker 16 = .ok (.bipush 100, 2) := by decide +kernel
theorem dL_speaker_18 : decode cL_speaker 18 = .ok (.aload_n 2, 1) := by decide +kernel
theorem dL_speaker_19 : decode cL_speaker 19 = .ok (.iconst 5, 1) := by decide +kernel
theorem dL_speaker_20 : decode cL_speaker 20 = .ok (.iload 4, 2) := by decide +kernel
theorem dL_speaker_22 : decode cL_speaker 22 = .ok (.imul, 1) := by decide +kernel
theorem dL_speaker_23 : decode cL_speaker 23 = .ok (.iconst 1, 1) := by decide +kernel
theorem dL_speaker_24 : decode cL_speaker 24 = .ok (.iadd, 1) := by decide +kernel
theorem dL_speaker_25 : decode cL_speaker 25 = .ok (.iaload, 1) := by decide +kernel
theorem dL_speaker_26 : decode cL_speaker 26 = .ok (.imul, 1) := by decide +kernel
theorem dL_speaker_27 : decode cL_speaker 27 = .ok (.aload_n 2, 1) := by decide +kernel
theorem dL_speaker_28 : decode cL_speaker 28 = .ok (.iconst 5, 1) := by decide +kernel
theorem dL_speaker_29 : decode cL_speaker 29 = .ok (.iload 4, 2) := by decide +kernel
theorem dL_speaker_31 : decode cL_speaker 31 = .ok (.imul, 1) := by decide +kernel
theorem dL_speaker_32 : decode cL_speaker 32 = .ok (.iconst 4, 1) := by decide +kernel
theorem dL_speaker_33 : decode cL_speaker 33 = .ok (.iadd, 1) := by decide +kernel
theorem dL_speaker_34 : decode cL_speaker 34 = .ok (.iaload, 1) := by decide +kernel
theorem dL_speaker_35 : decode cL_speaker 35 = .ok (.iadd, 1) := by decide +kernel
theorem dL_speaker_36 : decode cL_speaker 36 = .ok (.istore 5, 2) := by decide +kernel
theorem dL_speaker_38 : decode cL_speaker 38 = .ok (.aload_n 2, 1) := by decide +kernel
theorem dL_speaker_39 : decode cL_speaker 39 = .ok (.iconst 5, 1) := by decide +kernel
theorem dL_speaker_40 : decode cL_speaker 40 = .ok (.iload 4, 2) := by decide +kernel
theorem dL_speaker_42 : decode cL_speaker 42 = .ok (.imul, 1) := by decide +kernel
theorem dL_speaker_43 : decode cL_speaker 43 = .ok (.iaload, 1) := by decide +kernel
theorem dL_speaker_44 : decode cL_speaker 44 = .ok (.iload_n 0, 1) := by decide +kernel
theorem dL_speaker_45 : decode cL_speaker 45 = .ok (.if_icmp .ne 35, 3) := by decide +kernel
theorem dL_speaker_48 : decode cL_speaker 48 = .ok (.iload_n 3, 1) := by decide +kernel
theorem dL_speaker_49 : decode cL_speaker 49 = .ok (.ifCond .lt 26, 3) := by decide +kernel
theorem dL_speaker_52 : decode cL_speaker 52 = .ok (.iload 5, 2) := by decide +kernel
theorem dL_speaker_54 : decode cL_speaker 54 = .ok (.bipush 100, 2) := by decide +kernel
theorem dL_speaker_56 : decode cL_speaker 56 = .ok (.aload_n 2, 1) := by decide +kernel
theorem dL_speaker_57 : decode cL_speaker 57 = .ok (.iconst 5, 1) := by decide +kernel
theorem dL_speaker_58 : decode cL_speaker 58 = .ok (.iload_n 3, 1) := by decide +kernel
theorem dL_speaker_59 : decode cL_speaker 59 = .ok (.imul, 1) := by decide +kernel
theorem dL_speaker_60 : decode cL_speaker 60 = .ok (.iconst 1, 1) := by decide +kernel
theorem dL_speaker_61 : decode cL_speaker 61 = .ok (.iadd, 1) := by decide +kernel
theorem dL_speaker_62 : decode cL_speaker 62 = .ok (.iaload, 1) := by decide +kernel
theorem dL_speaker_63 : decode cL_speaker 63 = .ok (.imul, 1) := by decide +kernel
theorem dL_speaker_64 : decode cL_speaker 64 = .ok (.aload_n 2, 1) := by decide +kernel
theorem dL_speaker_65 : decode cL_speaker 65 = .ok (.iconst 5, 1) := by decide +kernel
theorem dL_speaker_66 : decode cL_speaker 66 = .ok (.iload_n 3, 1) := by decide +kernel
theorem dL_speaker_67 : decode cL_speaker 67 = .ok (.imul, 1) := by decide +kernel
theorem dL_speaker_68 : decode cL_speaker 68 = .ok (.iconst 4, 1) := by decide +kernel
theorem dL_speaker_69 : decode cL_speaker 69 = .ok (.iadd, 1) := by decide +kernel
theorem dL_speaker_70 : decode cL_speaker 70 = .ok (.iaload, 1) := by decide +kernel
theorem dL_speaker_71 : decode cL_speaker 71 = .ok (.iadd, 1) := by decide +kernel
theorem dL_speaker_72 : decode cL_speaker 72 = .ok (.if_icmp .lt 8, 3) := by decide +kernel
theorem dL_speaker_75 : decode cL_speaker 75 = .ok (.iload 4, 2) := by decide +kernel
theorem dL_speaker_77 : decode cL_speaker 77 = .ok (.goto 4, 3) := by decide +kernel
theorem dL_speaker_80 : decode cL_speaker 80 = .ok (.iload_n 3, 1) := by decide +kernel
theorem dL_speaker_81 : decode cL_speaker 81 = .ok (.istore_n 3, 1) := by decide +kernel
theorem dL_speaker_82 : decode cL_speaker 82 = .ok (.iinc 4 (-1), 3) := by decide +kernel
theorem dL_speaker_85 : decode cL_speaker 85 = .ok (.goto (-74), 3) := by decide +kernel
theorem dL_speaker_88 : decode cL_speaker 88 = .ok (.iload_n 3, 1) := by decide +kernel
theorem dL_speaker_89 : decode cL_speaker 89 = .ok (.ireturn, 1) := by decide +kernel
theorem dL_votes_0 : decode cL_votes 0 = .ok (.iload_n 0, 1) := by decide +kernel
theorem dL_votes_1 : decode cL_votes 1 = .ok (.aload_n 2, 1) := by decide +kernel
theorem dL_votes_2 : decode cL_votes 2 = .ok (.aload_n 3, 1) := by decide +kernel
theorem dL_votes_3 : decode cL_votes 3 = .ok (.invokestatic 12, 3) := by decide +kernel
theorem dL_votes_6 : decode cL_votes 6 = .ok (.istore 5, 2) := by decide +kernel
theorem dL_votes_8 : decode cL_votes 8 = .ok (.iload 5, 2) := by decide +kernel
theorem dL_votes_10 : decode cL_votes 10 = .ok (.ifCond .ge 6, 3) := by decide +kernel
theorem dL_votes_13 : decode cL_votes 13 = .ok (.bipush 25, 2) := by decide +kernel
theorem dL_votes_15 : decode cL_votes 15 = .ok (.ireturn, 1) := by decide +kernel
theorem dL_votes_16 : decode cL_votes 16 = .ok (.fconst 0, 1) := by decide +kernel
theorem dL_votes_17 : decode cL_votes 17 = .ok (.fstore 6, 2) := by decide +kernel
theorem dL_votes_19 : decode cL_votes 19 = .ok (.iconst 0, 1) := by decide +kernel
theorem dL_votes_20 : decode cL_votes 20 = .ok (.istore 7, 2) := by decide +kernel
theorem dL_votes_22 : decode cL_votes 22 = .ok (.bipush (-5), 2) := by decide +kernel
theorem dL_votes_24 : decode cL_votes 24 = .ok (.istore 8, 2) := by decide +kernel
theorem dL_votes_26 : decode cL_votes 26 = .ok (.iconst 3, 1) := by decide +kernel
theorem dL_votes_27 : decode cL_votes 27 = .ok (.istore 9, 2) := by decide +kernel
theorem dL_votes_29 : decode cL_votes 29 = .ok (.iload 9, 2) := by decide +kernel
theorem dL_votes_31 : decode cL_votes 31 = .ok (.ifCond .lt 87, 3) := by decide +kernel
theorem dL_votes_34 : decode cL_votes 34 = .ok (.iload_n 0, 1) := by decide +kernel
theorem dL_votes_35 : decode cL_votes 35 = .ok (.iload 9, 2) := by decide +kernel
theorem dL_votes_37 : decode cL_votes 37 = .ok (.iload_n 1, 1) := by decide +kernel
theorem dL_votes_38 : decode cL_votes 38 = .ok (.aload_n 2, 1) := by decide +kernel
theorem dL_votes_39 : decode cL_votes 39 = .ok (.aload_n 3, 1) := by decide +kernel
theorem dL_votes_40 : decode cL_votes 40 = .ok (.aload 4, 2) := by decide +kernel
theorem dL_votes_42 : decode cL_votes 42 = .ok (.invokestatic 18, 3) := by decide +kernel
theorem dL_votes_45 : decode cL_votes 45 = .ok (.fstore 10, 2) := by decide +kernel
theorem dL_votes_47 : decode cL_votes 47 = .ok (.fload 10, 2) := by decide +kernel
theorem dL_votes_49 : decode cL_votes 49 = .ok (.fload 6, 2) := by decide +kernel
theorem dL_votes_51 : decode cL_votes 51 = .ok (.fcmp .l, 1) := by decide +kernel
theorem dL_votes_52 : decode cL_votes 52 = .ok (.ifCond .le 7, 3) := by decide +kernel
theorem dL_votes_55 : decode cL_votes 55 = .ok (.iconst 1, 1) := by decide +kernel
theorem dL_votes_56 : decode cL_votes 56 = .ok (.goto 20, 3) := by decide +kernel
theorem dL_votes_59 : decode cL_votes 59 = .ok (.fload 10, 2) := by decide +kernel
theorem dL_votes_61 : decode cL_votes 61 = .ok (.fload 6, 2) := by decide +kernel
theorem dL_votes_63 : decode cL_votes 63 = .ok (.fcmp .l, 1) := by decide +kernel
theorem dL_votes_64 : decode cL_votes 64 = .ok (.ifCond .ne 10, 3) := by decide +kernel
theorem dL_votes_67 : decode cL_votes 67 = .ok (.iload 7, 2) := by decide +kernel
theorem dL_votes_69 : decode cL_votes 69 = .ok (.iconst 1, 1) := by decide +kernel
theorem dL_votes_70 : decode cL_votes 70 = .ok (.iadd, 1) := by decide +kernel
theorem dL_votes_71 : decode cL_votes 71 = .ok (.goto 5, 3) := by decide +kernel
theorem dL_votes_74 : decode cL_votes 74 = .ok (.iload 7, 2) := by decide +kernel
theorem dL_votes_76 : decode cL_votes 76 = .ok (.istore 7, 2) := by decide +kernel
theorem dL_votes_78 : decode cL_votes 78 = .ok (.fload 10, 2) := by decide +kernel
theorem dL_votes_80 : decode cL_votes 80 = .ok (.fload 6, 2) := by decide +kernel
theorem dL_votes_82 : decode cL_votes 82 = .ok (.fcmp .l, 1) := by decide +kernel
theorem dL_votes_83 : decode cL_votes 83 = .ok (.ifCond .lt 8, 3) := by decide +kernel
theorem dL_votes_86 : decode cL_votes 86 = .ok (.iload 9, 2) := by decide +kernel
theorem dL_votes_88 : decode cL_votes 88 = .ok (.goto 5, 3) := by decide +kernel
theorem dL_votes_91 : decode cL_votes 91 = .ok (.iload 8, 2) := by decide +kernel
theorem dL_votes_93 : decode cL_votes 93 = .ok (.istore 8, 2) := by decide +kernel
theorem dL_votes_95 : decode cL_votes 95 = .ok (.fload 10, 2) := by decide +kernel
theorem dL_votes_97 : decode cL_votes 97 = .ok (.fload 6, 2) := by decide +kernel
theorem dL_votes_99 : decode cL_votes 99 = .ok (.fcmp .l, 1) := by decide +kernel
theorem dL_votes_100 : decode cL_votes 100 = .ok (.ifCond .le 8, 3) := by decide +kernel
theorem dL_votes_103 : decode cL_votes 103 = .ok (.fload 10, 2) := by decide +kernel
theorem dL_votes_105 : decode cL_votes 105 = .ok (.goto 5, 3) := by decide +kernel
theorem dL_votes_108 : decode cL_votes 108 = .ok (.fload 6, 2) := by decide +kernel
theorem dL_votes_110 : decode cL_votes 110 = .ok (.fstore 6, 2) := by decide +kernel
theorem dL_votes_112 : decode cL_votes 112 = .ok (.iinc 9 (-1), 3) := by decide +kernel
theorem dL_votes_115 : decode cL_votes 115 = .ok (.goto (-86), 3) := by decide +kernel
theorem dL_votes_118 : decode cL_votes 118 = .ok (.fload 6, 2) := by decide +kernel
theorem dL_votes_120 : decode cL_votes 120 = .ok (.fconst 0, 1) := by decide +kernel
theorem dL_votes_121 : decode cL_votes 121 = .ok (.fcmp .l, 1) := by decide +kernel
theorem dL_votes_122 : decode cL_votes 122 = .ok (.ifCond .ne 6, 3) := by decide +kernel
theorem dL_votes_125 : decode cL_votes 125 = .ok (.bipush 35, 2) := by decide +kernel
theorem dL_votes_127 : decode cL_votes 127 = .ok (.ireturn, 1) := by decide +kernel
theorem dL_votes_128 : decode cL_votes 128 = .ok (.iload_n 0, 1) := by decide +kernel
theorem dL_votes_129 : decode cL_votes 129 = .ok (.aload_n 3, 1) := by decide +kernel
theorem dL_votes_130 : decode cL_votes 130 = .ok (.iconst 5, 1) := by decide +kernel
theorem dL_votes_131 : decode cL_votes 131 = .ok (.iload 5, 2) := by decide +kernel
theorem dL_votes_133 : decode cL_votes 133 = .ok (.imul, 1) := by decide +kernel
theorem dL_votes_134 : decode cL_votes 134 = .ok (.iconst 3, 1) := by decide +kernel
theorem dL_votes_135 : decode cL_votes 135 = .ok (.iadd, 1) := by decide +kernel
theorem dL_votes_136 : decode cL_votes 136 = .ok (.iaload, 1) := by decide +kernel
theorem dL_votes_137 : decode cL_votes 137 = .ok (.iload_n 1, 1) := by decide +kernel
theorem dL_votes_138 : decode cL_votes 138 = .ok (.aload_n 2, 1) := by decide +kernel
theorem dL_votes_139 : decode cL_votes 139 = .ok (.aload_n 3, 1) := by decide +kernel
theorem dL_votes_140 : decode cL_votes 140 = .ok (.aload 4, 2) := by decide +kernel
theorem dL_votes_142 : decode cL_votes 142 = .ok (.invokestatic 18, 3) := by decide +kernel
theorem dL_votes_145 : decode cL_votes 145 = .ok (.fload 6, 2) := by decide +kernel
theorem dL_votes_147 : decode cL_votes 147 = .ok (.fcmp .l, 1) := by decide +kernel
theorem dL_votes_148 : decode cL_votes 148 = .ok (.ifCond .ne 7, 3) := by decide +kernel
theorem dL_votes_151 : decode cL_votes 151 = .ok (.iconst 1, 1) := by decide +kernel
theorem dL_votes_152 : decode cL_votes 152 = .ok (.goto 4, 3) := by decide +kernel
theorem dL_votes_155 : decode cL_votes 155 = .ok (.iconst 0, 1) := by decide +kernel
theorem dL_votes_156 : decode cL_votes 156 = .ok (.istore 9, 2) := by decide +kernel
theorem dL_votes_158 : decode cL_votes 158 = .ok (.iload 7, 2) := by decide +kernel
theorem dL_votes_160 : decode cL_votes 160 = .ok (.iconst 1, 1) := by decide +kernel
theorem dL_votes_161 : decode cL_votes 161 = .ok (.if_icmp .ne 8, 3) := by decide +kernel
theorem dL_votes_164 : decode cL_votes 164 = .ok (.iload 8, 2) := by decide +kernel
theorem dL_votes_166 : decode cL_votes 166 = .ok (.goto 27, 3) := by decide +kernel
theorem dL_votes_169 : decode cL_votes 169 = .ok (.iload 9, 2) := by decide +kernel
theorem dL_votes_171 : decode cL_votes 171 = .ok (.ifCond .eq 17, 3) := by decide +kernel
theorem dL_votes_174 : decode cL_votes 174 = .ok (.bipush 10, 2) := by decide +kernel
theorem dL_votes_176 : decode cL_votes 176 = .ok (.aload_n 3, 1) := by decide +kernel
theorem dL_votes_177 : decode cL_votes 177 = .ok (.iconst 5, 1) := by decide +kernel
theorem dL_votes_178 : decode cL_votes 178 = .ok (.iload 5, 2) := by decide +kernel
theorem dL_votes_180 : decode cL_votes 180 = .ok (.imul, 1) := by decide +kernel
theorem dL_votes_181 : decode cL_votes 181 = .ok (.iconst 3, 1) := by decide +kernel
theorem dL_votes_182 : decode cL_votes 182 = .ok (.iadd, 1) := by decide +kernel
theorem dL_votes_183 : decode cL_votes 183 = .ok (.iaload, 1) := by decide +kernel
theorem dL_votes_184 : decode cL_votes 184 = .ok (.iadd, 1) := by decide +kernel
theorem dL_votes_185 : decode cL_votes 185 = .ok (.goto 8, 3) := by decide +kernel
theorem dL_votes_188 : decode cL_votes 188 = .ok (.bipush 20, 2) := by decide +kernel
theorem dL_votes_190 : decode cL_votes 190 = .ok (.iload 8, 2) := by decide +kernel
theorem dL_votes_192 : decode cL_votes 192 = .ok (.iadd, 1) := by decide +kernel
theorem dL_votes_193 : decode cL_votes 193 = .ok (.ireturn, 1) := by decide +kernel
theorem dL_wayOf_0 : decode cL_wayOf 0 = .ok (.iload_n 0, 1) := by decide +kernel
theorem dL_wayOf_1 : decode cL_wayOf 1 = .ok (.bipush 25, 2) := by decide +kernel
theorem dL_wayOf_3 : decode cL_wayOf 3 = .ok (.if_icmp .eq 9, 3) := by decide +kernel
theorem dL_wayOf_6 : decode cL_wayOf 6 = .ok (.iload_n 0, 1) := by decide +kernel
theorem dL_wayOf_7 : decode cL_wayOf 7 = .ok (.bipush 35, 2) := by decide +kernel
theorem dL_wayOf_9 : decode cL_wayOf 9 = .ok (.if_icmp .ne 8, 3) := by decide +kernel
theorem dL_wayOf_12 : decode cL_wayOf 12 = .ok (.bipush (-5), 2) := by decide +kernel
theorem dL_wayOf_14 : decode cL_wayOf 14 = .ok (.goto 7, 3) := by decide +kernel
theorem dL_wayOf_17 : decode cL_wayOf 17 = .ok (.iload_n 0, 1) := by decide +kernel
theorem dL_wayOf_18 : decode cL_wayOf 18 = .ok (.bipush 10, 2) := by decide +kernel
theorem dL_wayOf_20 : decode cL_wayOf 20 = .ok (.irem, 1) := by decide +kernel
theorem dL_wayOf_21 : decode cL_wayOf 21 = .ok (.ireturn, 1) := by decide +kernel
theorem dL_seats_0 : decode cL_seats 0 = .ok (.iconst 0, 1) := by decide +kernel
theorem dL_seats_1 : decode cL_seats 1 = .ok (.istore_n 1, 1) := by decide +kernel
theorem dL_seats_2 : decode cL_seats 2 = .ok (.iconst 0, 1) := by decide +kernel
theorem dL_seats_3 : decode cL_seats 3 = .ok (.istore_n 2, 1) := by decide +kernel
theorem dL_seats_4 : decode cL_seats 4 = .ok (.iload_n 2, 1) := by decide +kernel
theorem dL_seats_5 : decode cL_seats 5 = .ok (.bipush 6, 2) := by decide +kernel
theorem dL_seats_7 : decode cL_seats 7 = .ok (.if_icmp .ge 18, 3) := by decide +kernel
theorem dL_seats_10 : decode cL_seats 10 = .ok (.iload_n 1, 1) := by decide +kernel
theorem dL_seats_11 : decode cL_seats 11 = .ok (.aload_n 0, 1) := by decide +kernel
theorem dL_seats_12 : decode cL_seats 12 = .ok (.bipush 11, 2) := by decide +kernel
theorem dL_seats_14 : decode cL_seats 14 = .ok (.iload_n 2, 1) := by decide +kernel
theorem dL_seats_15 : decode cL_seats 15 = .ok (.iadd, 1) := by decide +kernel
theorem dL_seats_16 : decode cL_seats 16 = .ok (.iaload, 1) := by decide +kernel
theorem dL_seats_17 : decode cL_seats 17 = .ok (.iadd, 1) := by decide +kernel
theorem dL_seats_18 : decode cL_seats 18 = .ok (.istore_n 1, 1) := by decide +kernel
theorem dL_seats_19 : decode cL_seats 19 = .ok (.iinc 2 1, 3) := by decide +kernel
theorem dL_seats_22 : decode cL_seats 22 = .ok (.goto (-18), 3) := by decide +kernel
theorem dL_seats_25 : decode cL_seats 25 = .ok (.iload_n 1, 1) := by decide +kernel
theorem dL_seats_26 : decode cL_seats 26 = .ok (.ireturn, 1) := by decide +kernel
theorem dL_decides_0 : decode cL_decides 0 = .ok (.bipush (-5), 2) := by decide +kernel
theorem dL_decides_2 : decode cL_decides 2 = .ok (.istore 4, 2) := by decide +kernel
theorem dL_decides_4 : decode cL_decides 4 = .ok (.iconst 0, 1) := by decide +kernel
theorem dL_decides_5 : decode cL_decides 5 = .ok (.istore 5, 2) := by decide +kernel
theorem dL_decides_7 : decode cL_decides 7 = .ok (.iload 5, 2) := by decide +kernel
theorem dL_decides_9 : decode cL_decides 9 = .ok (.iconst 4, 1) := by decide +kernel
theorem dL_decides_10 : decode cL_decides 10 = .ok (.if_icmp .ge 81, 3) := by decide +kernel
theorem dL_decides_13 : decode cL_decides 13 = .ok (.iconst 0, 1) := by decide +kernel
theorem dL_decides_14 : decode cL_decides 14 = .ok (.istore 6, 2) := by decide +kernel
theorem dL_decides_16 : decode cL_decides 16 = .ok (.iconst 0, 1) := by decide +kernel
theorem dL_decides_17 : decode cL_decides 17 = .ok (.istore 7, 2) := by decide +kernel
theorem dL_decides_19 : decode cL_decides 19 = .ok (.iload 7, 2) := by decide +kernel
theorem dL_decides_21 : decode cL_decides 21 = .ok (.bipush 6, 2) := by decide +kernel
theorem dL_decides_23 : decode cL_decides 23 = .ok (.if_icmp .ge 42, 3) := by decide +kernel
theorem dL_decides_26 : decode cL_decides 26 = .ok (.iload 6, 2) := by decide +kernel
theorem dL_decides_28 : decode cL_decides 28 = .ok (.iload 7, 2) := by decide +kernel
theorem dL_decides_30 : decode cL_decides 30 = .ok (.iload_n 0, 1) := by decide +kernel
theorem dL_decides_31 : decode cL_decides 31 = .ok (.aload_n 1, 1) := by decide +kernel
theorem dL_decides_32 : decode cL_decides 32 = .ok (.aload_n 2, 1) := by decide +kernel
theorem dL_decides_33 : decode cL_decides 33 = .ok (.aload_n 3, 1) := by decide +kernel
theorem dL_decides_34 : decode cL_decides 34 = .ok (.invokestatic 22, 3) := by decide +kernel
theorem dL_decides_37 : decode cL_decides 37 = .ok (.invokestatic 26, 3) := by decide +kernel
theorem dL_decides_40 : decode cL_decides 40 = .ok (.iload 5, 2) := by decide +kernel
theorem dL_decides_42 : decode cL_decides 42 = .ok (.if_icmp .ne 13, 3) := by decide +kernel
theorem dL_decides_45 : decode cL_decides 45 = .ok (.aload_n 1, 1) := by decide +kernel
theorem dL_decides_46 : decode cL_decides 46 = .ok (.bipush 11, 2) := by decide +kernel
theorem dL_decides_48 : decode cL_decides 48 = .ok (.iload 7, 2) := by decide +kernel
theorem dL_decides_50 : decode cL_decides 50 = .ok (.iadd, 1) := by decide +kernel
theorem dL_decides_51 : decode cL_decides 51 = .ok (.iaload, 1) := by decide +kernel
theorem dL_decides_52 : decode cL_decides 52 = .ok (.goto 4, 3) := by decide +kernel
theorem dL_decides_55 : decode cL_decides 55 = .ok (.iconst 0, 1) := by decide +kernel
theorem dL_decides_56 : decode cL_decides 56 = .ok (.iadd, 1) := by decide +kernel
theorem dL_decides_57 : decode cL_decides 57 = .ok (.istore 6, 2) := by decide +kernel
theorem dL_decides_59 : decode cL_decides 59 = .ok (.iinc 7 1, 3) := by decide +kernel
theorem dL_decides_62 : decode cL_decides 62 = .ok (.goto (-43), 3) := by decide +kernel
theorem dL_decides_65 : decode cL_decides 65 = .ok (.iconst 2, 1) := by decide +kernel
theorem dL_decides_66 : decode cL_decides 66 = .ok (.iload 6, 2) := by decide +kernel
theorem dL_decides_68 : decode cL_decides 68 = .ok (.imul, 1) := by decide +kernel
theorem dL_decides_69 : decode cL_decides 69 = .ok (.aload_n 1, 1) := by decide +kernel
theorem dL_decides_70 : decode cL_decides 70 = .ok (.invokestatic 30, 3) := by decide +kernel
theorem dL_decides_73 : decode cL_decides 73 = .ok (.if_icmp .le 8, 3) := by decide +kernel
theorem dL_decides_76 : decode cL_decides 76 = .ok (.iload 5, 2) := by decide +kernel
theorem dL_decides_78 : decode cL_decides 78 = .ok (.goto 5, 3) := by decide +kernel
theorem dL_decides_81 : decode cL_decides 81 = .ok (.iload 4, 2) := by decide +kernel
theorem dL_decides_83 : decode cL_decides 83 = .ok (.istore 4, 2) := by decide +kernel
theorem dL_decides_85 : decode cL_decides 85 = .ok (.iinc 5 1, 3) := by decide +kernel
theorem dL_decides_88 : decode cL_decides 88 = .ok (.goto (-81), 3) := by decide +kernel
theorem dL_decides_91 : decode cL_decides 91 = .ok (.iload 4, 2) := by decide +kernel
theorem dL_decides_93 : decode cL_decides 93 = .ok (.ireturn, 1) := by decide +kernel
theorem dL_tick_0 : decode cL_tick 0 = .ok (.iconst 0, 1) := by decide +kernel
theorem dL_tick_1 : decode cL_tick 1 = .ok (.istore 4, 2) := by decide +kernel
theorem dL_tick_3 : decode cL_tick 3 = .ok (.iconst 0, 1) := by decide +kernel
theorem dL_tick_4 : decode cL_tick 4 = .ok (.istore 5, 2) := by decide +kernel
theorem dL_tick_6 : decode cL_tick 6 = .ok (.iload 5, 2) := by decide +kernel
theorem dL_tick_8 : decode cL_tick 8 = .ok (.aload_n 0, 1) := by decide +kernel
theorem dL_tick_9 : decode cL_tick 9 = .ok (.bipush 10, 2) := by decide +kernel
theorem dL_tick_11 : decode cL_tick 11 = .ok (.iaload, 1) := by decide +kernel
theorem dL_tick_12 : decode cL_tick 12 = .ok (.if_icmp .ge 111, 3) := by decide +kernel
theorem dL_tick_15 : decode cL_tick 15 = .ok (.aload_n 0, 1) := by decide +kernel
theorem dL_tick_16 : decode cL_tick 16 = .ok (.iconst 4, 1) := by decide +kernel
theorem dL_tick_17 : decode cL_tick 17 = .ok (.iaload, 1) := by decide +kernel
theorem dL_tick_18 : decode cL_tick 18 = .ok (.iconst 2, 1) := by decide +kernel
theorem dL_tick_19 : decode cL_tick 19 = .ok (.aload_n 1, 1) := by decide +kernel
theorem dL_tick_20 : decode cL_tick 20 = .ok (.iconst 5, 1) := by decide +kernel
theorem dL_tick_21 : decode cL_tick 21 = .ok (.iload 5, 2) := by decide +kernel
theorem dL_tick_23 : decode cL_tick 23 = .ok (.imul, 1) := by decide +kernel
theorem dL_tick_24 : decode cL_tick 24 = .ok (.iconst 4, 1) := by decide +kernel
theorem dL_tick_25 : decode cL_tick 25 = .ok (.iadd, 1) := by decide +kernel
theorem dL_tick_26 : decode cL_tick 26 = .ok (.iaload, 1) := by decide +kernel
theorem dL_tick_27 : decode cL_tick 27 = .ok (.imul, 1) := by decide +kernel
theorem dL_tick_28 : decode cL_tick 28 = .ok (.bipush 64, 2) := by decide +kernel
theorem dL_tick_30 : decode cL_tick 30 = .ok (.if_icmp .ge 7, 3) := by decide +kernel
theorem dL_tick_33 : decode cL_tick 33 = .ok (.iconst 1, 1) := by decide +kernel
theorem dL_tick_34 : decode cL_tick 34 = .ok (.goto 4, 3) := by decide +kernel
theorem dL_tick_37 : decode cL_tick 37 = .ok (.iconst 0, 1) := by decide +kernel
theorem dL_tick_38 : decode cL_tick 38 = .ok (.iadd, 1) := by decide +kernel
theorem dL_tick_39 : decode cL_tick 39 = .ok (.istore 6, 2) := by decide +kernel
theorem dL_tick_41 : decode cL_tick 41 = .ok (.aload_n 1, 1) := by decide +kernel
theorem dL_tick_42 : decode cL_tick 42 = .ok (.iconst 5, 1) := by decide +kernel
theorem dL_tick_43 : decode cL_tick 43 = .ok (.iload 5, 2) := by decide +kernel
theorem dL_tick_45 : decode cL_tick 45 = .ok (.imul, 1) := by decide +kernel
theorem dL_tick_46 : decode cL_tick 46 = .ok (.iconst 3, 1) := by decide +kernel
theorem dL_tick_47 : decode cL_tick 47 = .ok (.iadd, 1) := by decide +kernel
theorem dL_tick_48 : decode cL_tick 48 = .ok (.iaload, 1) := by decide +kernel
theorem dL_tick_49 : decode cL_tick 49 = .ok (.istore 7, 2) := by decide +kernel
theorem dL_tick_51 : decode cL_tick 51 = .ok (.iload 6, 2) := by decide +kernel
theorem dL_tick_53 : decode cL_tick 53 = .ok (.aload_n 1, 1) := by decide +kernel
theorem dL_tick_54 : decode cL_tick 54 = .ok (.iconst 5, 1) := by decide +kernel
theorem dL_tick_55 : decode cL_tick 55 = .ok (.iload 5, 2) := by decide +kernel
theorem dL_tick_57 : decode cL_tick 57 = .ok (.imul, 1) := by decide +kernel
theorem dL_tick_58 : decode cL_tick 58 = .ok (.iconst 2, 1) := by decide +kernel
theorem dL_tick_59 : decode cL_tick 59 = .ok (.iadd, 1) := by decide +kernel
theorem dL_tick_60 : decode cL_tick 60 = .ok (.iaload, 1) := by decide +kernel
theorem dL_tick_61 : decode cL_tick 61 = .ok (.if_icmp .le 56, 3) := by decide +kernel
theorem dL_tick_64 : decode cL_tick 64 = .ok (.iload 7, 2) := by decide +kernel
theorem dL_tick_66 : decode cL_tick 66 = .ok (.aload_n 0, 1) := by decide +kernel
theorem dL_tick_67 : decode cL_tick 67 = .ok (.iconst 3, 1) := by decide +kernel
theorem dL_tick_68 : decode cL_tick 68 = .ok (.iaload, 1) := by decide +kernel
theorem dL_tick_69 : decode cL_tick 69 = .ok (.if_icmp .eq 48, 3) := by decide +kernel
theorem dL_tick_72 : decode cL_tick 72 = .ok (.aload_n 1, 1) := by decide +kernel
theorem dL_tick_73 : decode cL_tick 73 = .ok (.iconst 5, 1) := by decide +kernel
theorem dL_tick_74 : decode cL_tick 74 = .ok (.iload 5, 2) := by decide +kernel
theorem dL_tick_76 : decode cL_tick 76 = .ok (.imul, 1) := by decide +kernel
theorem dL_tick_77 : decode cL_tick 77 = .ok (.iconst 3, 1) := by decide +kernel
theorem dL_tick_78 : decode cL_tick 78 = .ok (.iadd, 1) := by decide +kernel
theorem dL_tick_79 : decode cL_tick 79 = .ok (.aload_n 0, 1) := by decide +kernel
theorem dL_tick_80 : decode cL_tick 80 = .ok (.iconst 3, 1) := by decide +kernel
theorem dL_tick_81 : decode cL_tick 81 = .ok (.iaload, 1) := by decide +kernel
theorem dL_tick_82 : decode cL_tick 82 = .ok (.iconst 1, 1) := by decide +kernel
theorem dL_tick_83 : decode cL_tick 83 = .ok (.iadd, 1) := by decide +kernel
theorem dL_tick_84 : decode cL_tick 84 = .ok (.iconst 4, 1) := by decide +kernel
theorem dL_tick_85 : decode cL_tick 85 = .ok (.irem, 1) := by decide +kernel
theorem dL_tick_86 : decode cL_tick 86 = .ok (.iload 7, 2) := by decide +kernel
theorem dL_tick_88 : decode cL_tick 88 = .ok (.if_icmp .ne 9, 3) := by decide +kernel
theorem dL_tick_91 : decode cL_tick 91 = .ok (.aload_n 0, 1) := by decide +kernel
theorem dL_tick_92 : decode cL_tick 92 = .ok (.iconst 3, 1) := by decide +kernel
theorem dL_tick_93 : decode cL_tick 93 = .ok (.iaload, 1) := by decide +kernel
theorem dL_tick_94 : decode cL_tick 94 = .ok (.goto 9, 3) := by decide +kernel
theorem dL_tick_97 : decode cL_tick 97 = .ok (.iload 7, 2) := by decide +kernel
theorem dL_tick_99 : decode cL_tick 99 = .ok (.iconst 1, 1) := by decide +kernel
theorem dL_tick_100 : decode cL_tick 100 = .ok (.iadd, 1) := by decide +kernel
theorem dL_tick_101 : decode cL_tick 101 = .ok (.iconst 4, 1) := by decide +kernel
theorem dL_tick_102 : decode cL_tick 102 = .ok (.irem, 1) := by decide +kernel
theorem dL_tick_103 : decode cL_tick 103 = .ok (.iastore, 1) := by decide +kernel
theorem dL_tick_104 : decode cL_tick 104 = .ok (.aload_n 3, 1) := by decide +kernel
theorem dL_tick_105 : decode cL_tick 105 = .ok (.iconst 2, 1) := by decide +kernel
theorem dL_tick_106 : decode cL_tick 106 = .ok (.iload 5, 2) := by decide +kernel
theorem dL_tick_108 : decode cL_tick 108 = .ok (.imul, 1) := by decide +kernel
theorem dL_tick_109 : decode cL_tick 109 = .ok (.dup2, 1) := by decide +kernel
theorem dL_tick_110 : decode cL_tick 110 = .ok (.iaload, 1) := by decide +kernel
theorem dL_tick_111 : decode cL_tick 111 = .ok (.iconst 1, 1) := by decide +kernel
theorem dL_tick_112 : decode cL_tick 112 = .ok (.iadd, 1) := by decide +kernel
theorem dL_tick_113 : decode cL_tick 113 = .ok (.iastore, 1) := by decide +kernel
theorem dL_tick_114 : decode cL_tick 114 = .ok (.iinc 4 1, 3) := by decide +kernel
theorem dL_tick_117 : decode cL_tick 117 = .ok (.iinc 5 1, 3) := by decide +kernel
theorem dL_tick_120 : decode cL_tick 120 = .ok (.goto (-114), 3) := by decide +kernel
theorem dL_tick_123 : decode cL_tick 123 = .ok (.iconst 0, 1) := by decide +kernel
theorem dL_tick_124 : decode cL_tick 124 = .ok (.istore 5, 2) := by decide +kernel
theorem dL_tick_126 : decode cL_tick 126 = .ok (.iload 5, 2) := by decide +kernel
theorem dL_tick_128 : decode cL_tick 128 = .ok (.aload_n 0, 1) := by decide +kernel
theorem dL_tick_129 : decode cL_tick 129 = .ok (.bipush 10, 2) := by decide +kernel
theorem dL_tick_131 : decode cL_tick 131 = .ok (.iaload, 1) := by decide +kernel
theorem dL_tick_132 : decode cL_tick 132 = .ok (.if_icmp .ge 128, 3) := by decide +kernel
theorem dL_tick_135 : decode cL_tick 135 = .ok (.iload 5, 2) := by decide +kernel
theorem dL_tick_137 : decode cL_tick 137 = .ok (.aload_n 2, 1) := by decide +kernel
theorem dL_tick_138 : decode cL_tick 138 = .ok (.invokestatic 34, 3) := by decide +kernel
theorem dL_tick_141 : decode cL_tick 141 = .ok (.aload_n 1, 1) := by decide +kernel
theorem dL_tick_142 : decode cL_tick 142 = .ok (.iconst 5, 1) := by decide +kernel
theorem dL_tick_143 : decode cL_tick 143 = .ok (.iload 5, 2) := by decide +kernel
theorem dL_tick_145 : decode cL_tick 145 = .ok (.imul, 1) := by decide +kernel
theorem dL_tick_146 : decode cL_tick 146 = .ok (.iconst 4, 1) := by decide +kernel
theorem dL_tick_147 : decode cL_tick 147 = .ok (.iadd, 1) := by decide +kernel
theorem dL_tick_148 : decode cL_tick 148 = .ok (.iaload, 1) := by decide +kernel
theorem dL_tick_149 : decode cL_tick 149 = .ok (.if_icmp .ge 12, 3) := by decide +kernel
theorem dL_tick_152 : decode cL_tick 152 = .ok (.iload 5, 2) := by decide +kernel
theorem dL_tick_154 : decode cL_tick 154 = .ok (.aload_n 2, 1) := by decide +kernel
theorem dL_tick_155 : decode cL_tick 155 = .ok (.invokestatic 34, 3) := by decide +kernel
theorem dL_tick_158 : decode cL_tick 158 = .ok (.goto 11, 3) := by decide +kernel
theorem dL_tick_161 : decode cL_tick 161 = .ok (.aload_n 1, 1) := by decide +kernel
theorem dL_tick_162 : decode cL_tick 162 = .ok (.iconst 5, 1) := by decide +kernel
theorem dL_tick_163 : decode cL_tick 163 = .ok (.iload 5, 2) := by decide +kernel
theorem dL_tick_165 : decode cL_tick 165 = .ok (.imul, 1) := by decide +kernel
theorem dL_tick_166 : decode cL_tick 166 = .ok (.iconst 4, 1) := by decide +kernel
theorem dL_tick_167 : decode cL_tick 167 = .ok (.iadd, 1) := by decide +kernel
theorem dL_tick_168 : decode cL_tick 168 = .ok (.iaload, 1) := by decide +kernel
theorem dL_tick_169 : decode cL_tick 169 = .ok (.istore 6, 2) := by decide +kernel
theorem dL_tick_171 : decode cL_tick 171 = .ok (.aload_n 1, 1) := by decide +kernel
theorem dL_tick_172 : decode cL_tick 172 = .ok (.iconst 5, 1) := by decide +kernel
theorem dL_tick_173 : decode cL_tick 173 = .ok (.iload 5, 2) := by decide +kernel
theorem dL_tick_175 : decode cL_tick 175 = .ok (.imul, 1) := by decide +kernel
theorem dL_tick_176 : decode cL_tick 176 = .ok (.iconst 4, 1) := by decide +kernel
theorem dL_tick_177 : decode cL_tick 177 = .ok (.iadd, 1) := by decide +kernel
theorem dL_tick_178 : decode cL_tick 178 = .ok (.dup2, 1) := by decide +kernel
theorem dL_tick_179 : decode cL_tick 179 = .ok (.iaload, 1) := by decide +kernel
theorem dL_tick_180 : decode cL_tick 180 = .ok (.iload 6, 2) := by decide +kernel
theorem dL_tick_182 : decode cL_tick 182 = .ok (.isub, 1) := by decide +kernel
theorem dL_tick_183 : decode cL_tick 183 = .ok (.iastore, 1) := by decide +kernel
theorem dL_tick_184 : decode cL_tick 184 = .ok (.aload_n 3, 1) := by decide +kernel
theorem dL_tick_185 : decode cL_tick 185 = .ok (.iconst 2, 1) := by decide +kernel
theorem dL_tick_186 : decode cL_tick 186 = .ok (.iload 5, 2) := by decide +kernel
theorem dL_tick_188 : decode cL_tick 188 = .ok (.imul, 1) := by decide +kernel
theorem dL_tick_189 : decode cL_tick 189 = .ok (.iconst 1, 1) := by decide +kernel
theorem dL_tick_190 : decode cL_tick 190 = .ok (.iadd, 1) := by decide +kernel
theorem dL_tick_191 : decode cL_tick 191 = .ok (.dup2, 1) := by decide +kernel
theorem dL_tick_192 : decode cL_tick 192 = .ok (.iaload, 1) := by decide +kernel
theorem dL_tick_193 : decode cL_tick 193 = .ok (.iload 6, 2) := by decide +kernel
theorem dL_tick_195 : decode cL_tick 195 = .ok (.iadd, 1) := by decide +kernel
theorem dL_tick_196 : decode cL_tick 196 = .ok (.iastore, 1) := by decide +kernel
theorem dL_tick_197 : decode cL_tick 197 = .ok (.aload_n 0, 1) := by decide +kernel
theorem dL_tick_198 : decode cL_tick 198 = .ok (.bipush 6, 2) := by decide +kernel
theorem dL_tick_200 : decode cL_tick 200 = .ok (.dup2, 1) := by decide +kernel
theorem dL_tick_201 : decode cL_tick 201 = .ok (.iaload, 1) := by decide +kernel
theorem dL_tick_202 : decode cL_tick 202 = .ok (.iload 6, 2) := by decide +kernel
theorem dL_tick_204 : decode cL_tick 204 = .ok (.iadd, 1) := by decide +kernel
theorem dL_tick_205 : decode cL_tick 205 = .ok (.iastore, 1) := by decide +kernel
theorem dL_tick_206 : decode cL_tick 206 = .ok (.iconst 0, 1) := by decide +kernel
theorem dL_tick_207 : decode cL_tick 207 = .ok (.istore 7, 2) := by decide +kernel
theorem dL_tick_209 : decode cL_tick 209 = .ok (.iload 7, 2) := by decide +kernel
theorem dL_tick_211 : decode cL_tick 211 = .ok (.iconst 4, 1) := by decide +kernel
theorem dL_tick_212 : decode cL_tick 212 = .ok (.if_icmp .ge 42, 3) := by decide +kernel
theorem dL_tick_215 : decode cL_tick 215 = .ok (.aload_n 2, 1) := by decide +kernel
theorem dL_tick_216 : decode cL_tick 216 = .ok (.iconst 4, 1) := by decide +kernel
theorem dL_tick_217 : decode cL_tick 217 = .ok (.iload 5, 2) := by decide +kernel
theorem dL_tick_219 : decode cL_tick 219 = .ok (.imul, 1) := by decide +kernel
theorem dL_tick_220 : decode cL_tick 220 = .ok (.iload 7, 2) := by decide +kernel
theorem dL_tick_222 : decode cL_tick 222 = .ok (.iadd, 1) := by decide +kernel
theorem dL_tick_223 : decode cL_tick 223 = .ok (.aload_n 1, 1) := by decide +kernel
theorem dL_tick_224 : decode cL_tick 224 = .ok (.iconst 5, 1) := by decide +kernel
theorem dL_tick_225 : decode cL_tick 225 = .ok (.iload 5, 2) := by decide +kernel
theorem dL_tick_227 : decode cL_tick 227 = .ok (.imul, 1) := by decide +kernel
theorem dL_tick_228 : decode cL_tick 228 = .ok (.iconst 4, 1) := by decide +kernel
theorem dL_tick_229 : decode cL_tick 229 = .ok (.iadd, 1) := by decide +kernel
theorem dL_tick_230 : decode cL_tick 230 = .ok (.iaload, 1) := by decide +kernel
theorem dL_tick_231 : decode cL_tick 231 = .ok (.ifCond .ne 7, 3) := by decide +kernel
theorem dL_tick_234 : decode cL_tick 234 = .ok (.iconst 0, 1) := by decide +kernel
theorem dL_tick_235 : decode cL_tick 235 = .ok (.goto 12, 3) := by decide +kernel
theorem dL_tick_238 : decode cL_tick 238 = .ok (.aload_n 2, 1) := by decide +kernel
theorem dL_tick_239 : decode cL_tick 239 = .ok (.iconst 4, 1) := by decide +kernel
theorem dL_tick_240 : decode cL_tick 240 = .ok (.iload 5, 2) := by decide +kernel
theorem dL_tick_242 : decode cL_tick 242 = .ok (.imul, 1) := by decide +kernel
theorem dL_tick_243 : decode cL_tick 243 = .ok (.iload 7, 2) := by decide +kernel
theorem dL_tick_245 : decode cL_tick 245 = .ok (.iadd, 1) := by decide +kernel
theorem dL_tick_246 : decode cL_tick 246 = .ok (.iaload, 1) := by decide +kernel
theorem dL_tick_247 : decode cL_tick 247 = .ok (.iastore, 1) := by decide +kernel
theorem dL_tick_248 : decode cL_tick 248 = .ok (.iinc 7 1, 3) := by decide +kernel
theorem dL_tick_251 : decode cL_tick 251 = .ok (.goto (-42), 3) := by decide +kernel
theorem dL_tick_254 : decode cL_tick 254 = .ok (.iinc 5 1, 3) := by decide +kernel
theorem dL_tick_257 : decode cL_tick 257 = .ok (.goto (-131), 3) := by decide +kernel
theorem dL_tick_260 : decode cL_tick 260 = .ok (.aload_n 0, 1) := by decide +kernel
theorem dL_tick_261 : decode cL_tick 261 = .ok (.iconst 2, 1) := by decide +kernel
theorem dL_tick_262 : decode cL_tick 262 = .ok (.dup2, 1) := by decide +kernel
theorem dL_tick_263 : decode cL_tick 263 = .ok (.iaload, 1) := by decide +kernel
theorem dL_tick_264 : decode cL_tick 264 = .ok (.iconst 1, 1) := by decide +kernel
theorem dL_tick_265 : decode cL_tick 265 = .ok (.iadd, 1) := by decide +kernel
theorem dL_tick_266 : decode cL_tick 266 = .ok (.iastore, 1) := by decide +kernel
theorem dL_tick_267 : decode cL_tick 267 = .ok (.aload_n 0, 1) := by decide +kernel
theorem dL_tick_268 : decode cL_tick 268 = .ok (.bipush 7, 2) := by decide +kernel
theorem dL_tick_270 : decode cL_tick 270 = .ok (.dup2, 1) := by decide +kernel
theorem dL_tick_271 : decode cL_tick 271 = .ok (.iaload, 1) := by decide +kernel
theorem dL_tick_272 : decode cL_tick 272 = .ok (.iload 4, 2) := by decide +kernel
theorem dL_tick_274 : decode cL_tick 274 = .ok (.iadd, 1) := by decide +kernel
theorem dL_tick_275 : decode cL_tick 275 = .ok (.iastore, 1) := by decide +kernel
theorem dL_tick_276 : decode cL_tick 276 = .ok (.aload_n 0, 1) := by decide +kernel
theorem dL_tick_277 : decode cL_tick 277 = .ok (.iconst 3, 1) := by decide +kernel
theorem dL_tick_278 : decode cL_tick 278 = .ok (.aload_n 0, 1) := by decide +kernel
theorem dL_tick_279 : decode cL_tick 279 = .ok (.iconst 0, 1) := by decide +kernel
theorem dL_tick_280 : decode cL_tick 280 = .ok (.iaload, 1) := by decide +kernel
theorem dL_tick_281 : decode cL_tick 281 = .ok (.ifCond .le 23, 3) := by decide +kernel
theorem dL_tick_284 : decode cL_tick 284 = .ok (.aload_n 0, 1) := by decide +kernel
theorem dL_tick_285 : decode cL_tick 285 = .ok (.iconst 2, 1) := by decide +kernel
theorem dL_tick_286 : decode cL_tick 286 = .ok (.iaload, 1) := by decide +kernel
theorem dL_tick_287 : decode cL_tick 287 = .ok (.aload_n 0, 1) := by decide +kernel
theorem dL_tick_288 : decode cL_tick 288 = .ok (.iconst 0, 1) := by decide +kernel
theorem dL_tick_289 : decode cL_tick 289 = .ok (.iaload, 1) := by decide +kernel
theorem dL_tick_290 : decode cL_tick 290 = .ok (.irem, 1) := by decide +kernel
theorem dL_tick_291 : decode cL_tick 291 = .ok (.ifCond .ne 13, 3) := by decide +kernel
theorem dL_tick_294 : decode cL_tick 294 = .ok (.aload_n 0, 1) := by decide +kernel
theorem dL_tick_295 : decode cL_tick 295 = .ok (.iconst 3, 1) := by decide +kernel
theorem dL_tick_296 : decode cL_tick 296 = .ok (.iaload, 1) := by decide +kernel
theorem dL_tick_297 : decode cL_tick 297 = .ok (.iconst 1, 1) := by decide +kernel
theorem dL_tick_298 : decode cL_tick 298 = .ok (.iadd, 1) := by decide +kernel
theorem dL_tick_299 : decode cL_tick 299 = .ok (.iconst 4, 1) := by decide +kernel
theorem dL_tick_300 : decode cL_tick 300 = .ok (.irem, 1) := by decide +kernel
theorem dL_tick_301 : decode cL_tick 301 = .ok (.goto 6, 3) := by decide +kernel
theorem dL_tick_304 : decode cL_tick 304 = .ok (.aload_n 0, 1) := by decide +kernel
theorem dL_tick_305 : decode cL_tick 305 = .ok (.iconst 3, 1) := by decide +kernel
theorem dL_tick_306 : decode cL_tick 306 = .ok (.iaload, 1) := by decide +kernel
theorem dL_tick_307 : decode cL_tick 307 = .ok (.iastore, 1) := by decide +kernel
theorem dL_tick_308 : decode cL_tick 308 = .ok (.iload 4, 2) := by decide +kernel
theorem dL_tick_310 : decode cL_tick 310 = .ok (.ireturn, 1) := by decide +kernel
theorem dL_call_0 : decode cL_call 0 = .ok (.iload_n 1, 1) := by decide +kernel
theorem dL_call_1 : decode cL_call 1 = .ok (.tableswitch 146 0 9 #[55, 83, 90, 97, 104, 110, 118, 125, 133, 141], 55) := by decide +kernel
theorem dL_call_56 : decode cL_call 56 = .ok (.aload_n 0, 1) := by decide +kernel
theorem dL_call_57 : decode cL_call 57 = .ok (.iload_n 2, 1) := by decide +kernel
theorem dL_call_58 : decode cL_call 58 = .ok (.bipush 6, 2) := by decide +kernel
theorem dL_call_60 : decode cL_call 60 = .ok (.irem, 1) := by decide +kernel
theorem dL_call_61 : decode cL_call 61 = .ok (.iconst 1, 1) := by decide +kernel
theorem dL_call_62 : decode cL_call 62 = .ok (.iload_n 3, 1) := by decide +kernel
theorem dL_call_63 : decode cL_call 63 = .ok (.iconst 5, 1) := by decide +kernel
theorem dL_call_64 : decode cL_call 64 = .ok (.irem, 1) := by decide +kernel
theorem dL_call_65 : decode cL_call 65 = .ok (.iadd, 1) := by decide +kernel
theorem dL_call_66 : decode cL_call 66 = .ok (.iconst 1, 1) := by decide +kernel
theorem dL_call_67 : decode cL_call 67 = .ok (.iload 4, 2) := by decide +kernel
theorem dL_call_69 : decode cL_call 69 = .ok (.bipush 9, 2) := by decide +kernel
theorem dL_call_71 : decode cL_call 71 = .ok (.irem, 1) := by decide +kernel
theorem dL_call_72 : decode cL_call 72 = .ok (.iadd, 1) := by decide +kernel
theorem dL_call_73 : decode cL_call 73 = .ok (.iload 4, 2) := by decide +kernel
theorem dL_call_75 : decode cL_call 75 = .ok (.bipush 9, 2) := by decide +kernel
theorem dL_call_77 : decode cL_call 77 = .ok (.idiv, 1) := by decide +kernel
theorem dL_call_78 : decode cL_call 78 = .ok (.iconst 4, 1) := by decide +kernel
theorem dL_call_79 : decode cL_call 79 = .ok (.irem, 1) := by decide +kernel
theorem dL_call_80 : decode cL_call 80 = .ok (.invokevirtual 38, 3) := by decide +kernel
theorem dL_call_83 : decode cL_call 83 = .ok (.ireturn, 1) := by decide +kernel
theorem dL_call_84 : decode cL_call 84 = .ok (.aload_n 0, 1) := by decide +kernel
theorem dL_call_85 : decode cL_call 85 = .ok (.iload_n 2, 1) := by decide +kernel
theorem dL_call_86 : decode cL_call 86 = .ok (.iload_n 3, 1) := by decide +kernel
theorem dL_call_87 : decode cL_call 87 = .ok (.invokevirtual 44, 3) := by decide +kernel
theorem dL_call_90 : decode cL_call 90 = .ok (.ireturn, 1) := by decide +kernel
theorem dL_call_91 : decode cL_call 91 = .ok (.aload_n 0, 1) := by decide +kernel
theorem dL_call_92 : decode cL_call 92 = .ok (.iload_n 2, 1) := by decide +kernel
theorem dL_call_93 : decode cL_call 93 = .ok (.iload_n 3, 1) := by decide +kernel
theorem dL_call_94 : decode cL_call 94 = .ok (.invokevirtual 48, 3) := by decide +kernel
theorem dL_call_97 : decode cL_call 97 = .ok (.ireturn, 1) := by decide +kernel
theorem dL_call_98 : decode cL_call 98 = .ok (.aload_n 0, 1) := by decide +kernel
theorem dL_call_99 : decode cL_call 99 = .ok (.iload_n 2, 1) := by decide +kernel
theorem dL_call_100 : decode cL_call 100 = .ok (.iload_n 3, 1) := by decide +kernel
theorem dL_call_101 : decode cL_call 101 = .ok (.invokevirtual 51, 3) := by decide +kernel
theorem dL_call_104 : decode cL_call 104 = .ok (.ireturn, 1) := by decide +kernel
theorem dL_call_105 : decode cL_call 105 = .ok (.aload_n 0, 1) := by decide +kernel
theorem dL_call_106 : decode cL_call 106 = .ok (.iload_n 2, 1) := by decide +kernel
theorem dL_call_107 : decode cL_call 107 = .ok (.invokevirtual 54, 3) := by decide +kernel
theorem dL_call_110 : decode cL_call 110 = .ok (.ireturn, 1) := by decide +kernel
theorem dL_call_111 : decode cL_call 111 = .ok (.aload_n 0, 1) := by decide +kernel
theorem dL_call_112 : decode cL_call 112 = .ok (.iload_n 2, 1) := by decide +kernel
theorem dL_call_113 : decode cL_call 113 = .ok (.iload 4, 2) := by decide +kernel
theorem dL_call_115 : decode cL_call 115 = .ok (.invokevirtual 57, 3) := by decide +kernel
theorem dL_call_118 : decode cL_call 118 = .ok (.ireturn, 1) := by decide +kernel
theorem dL_call_119 : decode cL_call 119 = .ok (.aload_n 0, 1) := by decide +kernel
theorem dL_call_120 : decode cL_call 120 = .ok (.iload_n 2, 1) := by decide +kernel
theorem dL_call_121 : decode cL_call 121 = .ok (.iload_n 3, 1) := by decide +kernel
theorem dL_call_122 : decode cL_call 122 = .ok (.invokevirtual 60, 3) := by decide +kernel
theorem dL_call_125 : decode cL_call 125 = .ok (.ireturn, 1) := by decide +kernel
theorem dL_call_126 : decode cL_call 126 = .ok (.aload_n 0, 1) := by decide +kernel
theorem dL_call_127 : decode cL_call 127 = .ok (.iload_n 3, 1) := by decide +kernel
theorem dL_call_128 : decode cL_call 128 = .ok (.iload 4, 2) := by decide +kernel
theorem dL_call_130 : decode cL_call 130 = .ok (.invokevirtual 62, 3) := by decide +kernel
theorem dL_call_133 : decode cL_call 133 = .ok (.ireturn, 1) := by decide +kernel
theorem dL_call_134 : decode cL_call 134 = .ok (.aload_n 0, 1) := by decide +kernel
theorem dL_call_135 : decode cL_call 135 = .ok (.iload_n 2, 1) := by decide +kernel
theorem dL_call_136 : decode cL_call 136 = .ok (.iload 4, 2) := by decide +kernel
theorem dL_call_138 : decode cL_call 138 = .ok (.invokevirtual 65, 3) := by decide +kernel
theorem dL_call_141 : decode cL_call 141 = .ok (.ireturn, 1) := by decide +kernel
theorem dL_call_142 : decode cL_call 142 = .ok (.aload_n 0, 1) := by decide +kernel
theorem dL_call_143 : decode cL_call 143 = .ok (.invokevirtual 68, 3) := by decide +kernel
theorem dL_call_146 : decode cL_call 146 = .ok (.ireturn, 1) := by decide +kernel
theorem dL_call_147 : decode cL_call 147 = .ok (.aload_n 0, 1) := by decide +kernel
theorem dL_call_148 : decode cL_call 148 = .ok (.iload 4, 2) := by decide +kernel
theorem dL_call_150 : decode cL_call 150 = .ok (.invokevirtual 72, 3) := by decide +kernel
theorem dL_call_153 : decode cL_call 153 = .ok (.ireturn, 1) := by decide +kernel
theorem dL_ofScarecrow_0 : decode cL_ofScarecrow 0 = .ok (.iload_n 1, 1) := by decide +kernel
theorem dL_ofScarecrow_1 : decode cL_ofScarecrow 1 = .ok (.aload 4, 2) := by decide +kernel
theorem dL_ofScarecrow_3 : decode cL_ofScarecrow 3 = .ok (.bipush 10, 2) := by decide +kernel
theorem dL_ofScarecrow_5 : decode cL_ofScarecrow 5 = .ok (.iaload, 1) := by decide +kernel
theorem dL_ofScarecrow_6 : decode cL_ofScarecrow 6 = .ok (.if_icmp .lt 5, 3) := by decide +kernel
theorem dL_ofScarecrow_9 : decode cL_ofScarecrow 9 = .ok (.iconst (-1), 1) := by decide +kernel
theorem dL_ofScarecrow_10 : decode cL_ofScarecrow 10 = .ok (.ireturn, 1) := by decide +kernel
theorem dL_ofScarecrow_11 : decode cL_ofScarecrow 11 = .ok (.iconst 5, 1) := by decide +kernel
theorem dL_ofScarecrow_12 : decode cL_ofScarecrow 12 = .ok (.iload_n 1, 1) := by decide +kernel
theorem dL_ofScarecrow_13 : decode cL_ofScarecrow 13 = .ok (.imul, 1) := by decide +kernel
theorem dL_ofScarecrow_14 : decode cL_ofScarecrow 14 = .ok (.iload_n 0, 1) := by decide +kernel
theorem dL_ofScarecrow_15 : decode cL_ofScarecrow 15 = .ok (.iconst 1, 1) := by decide +kernel
theorem dL_ofScarecrow_16 : decode cL_ofScarecrow 16 = .ok (.if_icmp .ne 7, 3) := by decide +kernel
theorem dL_ofScarecrow_19 : decode cL_ofScarecrow 19 = .ok (.iconst 0, 1) := by decide +kernel
theorem dL_ofScarecrow_20 : decode cL_ofScarecrow 20 = .ok (.goto 4, 3) := by decide +kernel
theorem dL_ofScarecrow_23 : decode cL_ofScarecrow 23 = .ok (.iconst 3, 1) := by decide +kernel
theorem dL_ofScarecrow_24 : decode cL_ofScarecrow 24 = .ok (.iadd, 1) := by decide +kernel
theorem dL_ofScarecrow_25 : decode cL_ofScarecrow 25 = .ok (.istore 7, 2) := by decide +kernel
theorem dL_ofScarecrow_27 : decode cL_ofScarecrow 27 = .ok (.aload 5, 2) := by decide +kernel
theorem dL_ofScarecrow_29 : decode cL_ofScarecrow 29 = .ok (.iload 7, 2) := by decide +kernel
theorem dL_ofScarecrow_31 : decode cL_ofScarecrow 31 = .ok (.iaload, 1) := by decide +kernel
theorem dL_ofScarecrow_32 : decode cL_ofScarecrow 32 = .ok (.istore 8, 2) := by decide +kernel
theorem dL_ofScarecrow_34 : decode cL_ofScarecrow 34 = .ok (.iload_n 0, 1) := by decide +kernel
theorem dL_ofScarecrow_35 : decode cL_ofScarecrow 35 = .ok (.iconst 1, 1) := by decide +kernel
theorem dL_ofScarecrow_36 : decode cL_ofScarecrow 36 = .ok (.if_icmp .eq 8, 3) := by decide +kernel
theorem dL_ofScarecrow_39 : decode cL_ofScarecrow 39 = .ok (.iload_n 0, 1) := by decide +kernel
theorem dL_ofScarecrow_40 : decode cL_ofScarecrow 40 = .ok (.iconst 2, 1) := by decide +kernel
theorem dL_ofScarecrow_41 : decode cL_ofScarecrow 41 = .ok (.if_icmp .ne 23, 3) := by decide +kernel
theorem dL_ofScarecrow_44 : decode cL_ofScarecrow 44 = .ok (.aload 5, 2) := by decide +kernel
theorem dL_ofScarecrow_46 : decode cL_ofScarecrow 46 = .ok (.iload 7, 2) := by decide +kernel
theorem dL_ofScarecrow_48 : decode cL_ofScarecrow 48 = .ok (.iload_n 2, 1) := by decide +kernel
theorem dL_ofScarecrow_49 : decode cL_ofScarecrow 49 = .ok (.iastore, 1) := by decide +kernel
theorem dL_ofScarecrow_50 : decode cL_ofScarecrow 50 = .ok (.iload 8, 2) := by decide +kernel
theorem dL_ofScarecrow_52 : decode cL_ofScarecrow 52 = .ok (.iload_n 2, 1) := by decide +kernel
theorem dL_ofScarecrow_53 : decode cL_ofScarecrow 53 = .ok (.if_icmp .ne 8, 3) := by decide +kernel
theorem dL_ofScarecrow_56 : decode cL_ofScarecrow 56 = .ok (.bipush (-5), 2) := by decide +kernel
theorem dL_ofScarecrow_58 : decode cL_ofScarecrow 58 = .ok (.goto 5, 3) := by decide +kernel
theorem dL_ofScarecrow_61 : decode cL_ofScarecrow 61 = .ok (.iload 8, 2) := by decide +kernel
theorem dL_ofScarecrow_63 : decode cL_ofScarecrow 63 = .ok (.ireturn, 1) := by decide +kernel
theorem dL_ofScarecrow_64 : decode cL_ofScarecrow 64 = .ok (.iload_n 1, 1) := by decide +kernel
theorem dL_ofScarecrow_65 : decode cL_ofScarecrow 65 = .ok (.aload 6, 2) := by decide +kernel
theorem dL_ofScarecrow_67 : decode cL_ofScarecrow 67 = .ok (.invokestatic 34, 3) := by decide +kernel
theorem dL_ofScarecrow_70 : decode cL_ofScarecrow 70 = .ok (.istore 9, 2) := by decide +kernel
theorem dL_ofScarecrow_72 : decode cL_ofScarecrow 72 = .ok (.iload_n 0, 1) := by decide +kernel
theorem dL_ofScarecrow_73 : decode cL_ofScarecrow 73 = .ok (.iconst 3, 1) := by decide +kernel
theorem dL_ofScarecrow_74 : decode cL_ofScarecrow 74 = .ok (.if_icmp .ne 57, 3) := by decide +kernel
theorem dL_ofScarecrow_77 : decode cL_ofScarecrow 77 = .ok (.aload 5, 2) := by decide +kernel
theorem dL_ofScarecrow_79 : decode cL_ofScarecrow 79 = .ok (.iconst 5, 1) := by decide +kernel
theorem dL_ofScarecrow_80 : decode cL_ofScarecrow 80 = .ok (.iload_n 1, 1) := by decide +kernel
theorem dL_ofScarecrow_81 : decode cL_ofScarecrow 81 = .ok (.imul, 1) := by decide +kernel
theorem dL_ofScarecrow_82 : decode cL_ofScarecrow 82 = .ok (.iconst 4, 1) := by decide +kernel
theorem dL_ofScarecrow_83 : decode cL_ofScarecrow 83 = .ok (.iadd, 1) := by decide +kernel
theorem dL_ofScarecrow_84 : decode cL_ofScarecrow 84 = .ok (.iaload, 1) := by decide +kernel
theorem dL_ofScarecrow_85 : decode cL_ofScarecrow 85 = .ok (.ifCond .eq 10, 3) := by decide +kernel
theorem dL_ofScarecrow_88 : decode cL_ofScarecrow 88 = .ok (.iload 9, 2) := by decide +kernel
theorem dL_ofScarecrow_90 : decode cL_ofScarecrow 90 = .ok (.bipush 9, 2) := by decide +kernel
theorem dL_ofScarecrow_92 : decode cL_ofScarecrow 92 = .ok (.if_icmp .ne 22, 3) := by decide +kernel
theorem dL_ofScarecrow_95 : decode cL_ofScarecrow 95 = .ok (.aload 5, 2) := by decide +kernel
theorem dL_ofScarecrow_97 : decode cL_ofScarecrow 97 = .ok (.iconst 5, 1) := by decide +kernel
theorem dL_ofScarecrow_98 : decode cL_ofScarecrow 98 = .ok (.iload_n 1, 1) := by decide +kernel
theorem dL_ofScarecrow_99 : decode cL_ofScarecrow 99 = .ok (.imul, 1) := by decide +kernel
theorem dL_ofScarecrow_100 : decode cL_ofScarecrow 100 = .ok (.iconst 4, 1) := by decide +kernel
theorem dL_ofScarecrow_101 : decode cL_ofScarecrow 101 = .ok (.iadd, 1) := by decide +kernel
theorem dL_ofScarecrow_102 : decode cL_ofScarecrow 102 = .ok (.iaload, 1) := by decide +kernel
theorem dL_ofScarecrow_103 : decode cL_ofScarecrow 103 = .ok (.ifCond .ne 8, 3) := by decide +kernel
theorem dL_ofScarecrow_106 : decode cL_ofScarecrow 106 = .ok (.bipush (-4), 2) := by decide +kernel
theorem dL_ofScarecrow_108 : decode cL_ofScarecrow 108 = .ok (.goto 5, 3) := by decide +kernel
theorem dL_ofScarecrow_111 : decode cL_ofScarecrow 111 = .ok (.bipush (-3), 2) := by decide +kernel
theorem dL_ofScarecrow_113 : decode cL_ofScarecrow 113 = .ok (.ireturn, 1) := by decide +kernel
theorem dL_ofScarecrow_114 : decode cL_ofScarecrow 114 = .ok (.aload 6, 2) := by decide +kernel
theorem dL_ofScarecrow_116 : decode cL_ofScarecrow 116 = .ok (.iconst 4, 1) := by decide +kernel
theorem dL_ofScarecrow_117 : decode cL_ofScarecrow 117 = .ok (.iload_n 1, 1) := by decide +kernel
theorem dL_ofScarecrow_118 : decode cL_ofScarecrow 118 = .ok (.imul, 1) := by decide +kernel
theorem dL_ofScarecrow_119 : decode cL_ofScarecrow 119 = .ok (.iload_n 2, 1) := by decide +kernel
theorem dL_ofScarecrow_120 : decode cL_ofScarecrow 120 = .ok (.iadd, 1) := by decide +kernel
theorem dL_ofScarecrow_121 : decode cL_ofScarecrow 121 = .ok (.dup2, 1) := by decide +kernel
theorem dL_ofScarecrow_122 : decode cL_ofScarecrow 122 = .ok (.iaload, 1) := by decide +kernel
theorem dL_ofScarecrow_123 : decode cL_ofScarecrow 123 = .ok (.iconst 1, 1) := by decide +kernel
theorem dL_ofScarecrow_124 : decode cL_ofScarecrow 124 = .ok (.iadd, 1) := by decide +kernel
theorem dL_ofScarecrow_125 : decode cL_ofScarecrow 125 = .ok (.iastore, 1) := by decide +kernel
theorem dL_ofScarecrow_126 : decode cL_ofScarecrow 126 = .ok (.iload 9, 2) := by decide +kernel
theorem dL_ofScarecrow_128 : decode cL_ofScarecrow 128 = .ok (.iconst 1, 1) := by decide +kernel
theorem dL_ofScarecrow_129 : decode cL_ofScarecrow 129 = .ok (.iadd, 1) := by decide +kernel
theorem dL_ofScarecrow_130 : decode cL_ofScarecrow 130 = .ok (.ireturn, 1) := by decide +kernel
theorem dL_ofScarecrow_131 : decode cL_ofScarecrow 131 = .ok (.iload_n 0, 1) := by decide +kernel
theorem dL_ofScarecrow_132 : decode cL_ofScarecrow 132 = .ok (.iconst 4, 1) := by decide +kernel
theorem dL_ofScarecrow_133 : decode cL_ofScarecrow 133 = .ok (.if_icmp .ne 41, 3) := by decide +kernel
theorem dL_ofScarecrow_136 : decode cL_ofScarecrow 136 = .ok (.iconst 0, 1) := by decide +kernel
theorem dL_ofScarecrow_137 : decode cL_ofScarecrow 137 = .ok (.istore 10, 2) := by decide +kernel
theorem dL_ofScarecrow_139 : decode cL_ofScarecrow 139 = .ok (.iload 10, 2) := by decide +kernel
theorem dL_ofScarecrow_141 : decode cL_ofScarecrow 141 = .ok (.iconst 4, 1) := by decide +kernel
theorem dL_ofScarecrow_142 : decode cL_ofScarecrow 142 = .ok (.if_icmp .ge 19, 3) := by decide +kernel
theorem dL_ofScarecrow_145 : decode cL_ofScarecrow 145 = .ok (.aload 6, 2) := by decide +kernel
theorem dL_ofScarecrow_147 : decode cL_ofScarecrow 147 = .ok (.iconst 4, 1) := by decide +kernel
theorem dL_ofScarecrow_148 : decode cL_ofScarecrow 148 = .ok (.iload_n 1, 1) := by decide +kernel
theorem dL_ofScarecrow_149 : decode cL_ofScarecrow 149 = .ok (.imul, 1) := by decide +kernel
theorem dL_ofScarecrow_150 : decode cL_ofScarecrow 150 = .ok (.iload 10, 2) := by decide +kernel
theorem dL_ofScarecrow_152 : decode cL_ofScarecrow 152 = .ok (.iadd, 1) := by decide +kernel
theorem dL_ofScarecrow_153 : decode cL_ofScarecrow 153 = .ok (.iconst 0, 1) := by decide +kernel
theorem dL_ofScarecrow_154 : decode cL_ofScarecrow 154 = .ok (.iastore, 1) := by decide +kernel
theorem dL_ofScarecrow_155 : decode cL_ofScarecrow 155 = .ok (.iinc 10 1, 3) := by decide +kernel
theorem dL_ofScarecrow_158 : decode cL_ofScarecrow 158 = .ok (.goto (-19), 3) := by decide +kernel
theorem dL_ofScarecrow_161 : decode cL_ofScarecrow 161 = .ok (.iload 9, 2) := by decide +kernel
theorem dL_ofScarecrow_163 : decode cL_ofScarecrow 163 = .ok (.ifCond .ne 8, 3) := by decide +kernel
theorem dL_ofScarecrow_166 : decode cL_ofScarecrow 166 = .ok (.bipush (-5), 2) := by decide +kernel
theorem dL_ofScarecrow_168 : decode cL_ofScarecrow 168 = .ok (.goto 5, 3) := by decide +kernel
theorem dL_ofScarecrow_171 : decode cL_ofScarecrow 171 = .ok (.iload 9, 2) := by decide +kernel
theorem dL_ofScarecrow_173 : decode cL_ofScarecrow 173 = .ok (.ireturn, 1) := by decide +kernel
theorem dL_ofScarecrow_174 : decode cL_ofScarecrow 174 = .ok (.bipush 64, 2) := by decide +kernel
theorem dL_ofScarecrow_176 : decode cL_ofScarecrow 176 = .ok (.aload 5, 2) := by decide +kernel
theorem dL_ofScarecrow_178 : decode cL_ofScarecrow 178 = .ok (.iconst 5, 1) := by decide +kernel
theorem dL_ofScarecrow_179 : decode cL_ofScarecrow 179 = .ok (.iload_n 1, 1) := by decide +kernel
theorem dL_ofScarecrow_180 : decode cL_ofScarecrow 180 = .ok (.imul, 1) := by decide +kernel
theorem dL_ofScarecrow_181 : decode cL_ofScarecrow 181 = .ok (.iconst 4, 1) := by decide +kernel
theorem dL_ofScarecrow_182 : decode cL_ofScarecrow 182 = .ok (.iadd, 1) := by decide +kernel
theorem dL_ofScarecrow_183 : decode cL_ofScarecrow 183 = .ok (.iaload, 1) := by decide +kernel
theorem dL_ofScarecrow_184 : decode cL_ofScarecrow 184 = .ok (.isub, 1) := by decide +kernel
theorem dL_ofScarecrow_185 : decode cL_ofScarecrow 185 = .ok (.iload_n 3, 1) := by decide +kernel
theorem dL_ofScarecrow_186 : decode cL_ofScarecrow 186 = .ok (.if_icmp .ge 17, 3) := by decide +kernel
theorem dL_ofScarecrow_189 : decode cL_ofScarecrow 189 = .ok (.bipush 64, 2) := by decide +kernel
theorem dL_ofScarecrow_191 : decode cL_ofScarecrow 191 = .ok (.aload 5, 2) := by decide +kernel
theorem dL_ofScarecrow_193 : decode cL_ofScarecrow 193 = .ok (.iconst 5, 1) := by decide +kernel
theorem dL_ofScarecrow_194 : decode cL_ofScarecrow 194 = .ok (.iload_n 1, 1) := by decide +kernel
theorem dL_ofScarecrow_195 : decode cL_ofScarecrow 195 = .ok (.imul, 1) := by decide +kernel
theorem dL_ofScarecrow_196 : decode cL_ofScarecrow 196 = .ok (.iconst 4, 1) := by decide +kernel
theorem dL_ofScarecrow_197 : decode cL_ofScarecrow 197 = .ok (.iadd, 1) := by decide +kernel
theorem dL_ofScarecrow_198 : decode cL_ofScarecrow 198 = .ok (.iaload, 1) := by decide +kernel
theorem dL_ofScarecrow_199 : decode cL_ofScarecrow 199 = .ok (.isub, 1) := by decide +kernel
theorem dL_ofScarecrow_200 : decode cL_ofScarecrow 200 = .ok (.goto 4, 3) := by decide +kernel
theorem dL_ofScarecrow_203 : decode cL_ofScarecrow 203 = .ok (.iload_n 3, 1) := by decide +kernel
theorem dL_ofScarecrow_204 : decode cL_ofScarecrow 204 = .ok (.istore 10, 2) := by decide +kernel
theorem dL_ofScarecrow_206 : decode cL_ofScarecrow 206 = .ok (.iload 10, 2) := by decide +kernel
theorem dL_ofScarecrow_208 : decode cL_ofScarecrow 208 = .ok (.aload 4, 2) := by decide +kernel
theorem dL_ofScarecrow_210 : decode cL_ofScarecrow 210 = .ok (.iconst 5, 1) := by decide +kernel
theorem dL_ofScarecrow_211 : decode cL_ofScarecrow 211 = .ok (.iaload, 1) := by decide +kernel
theorem dL_ofScarecrow_212 : decode cL_ofScarecrow 212 = .ok (.if_icmp .le 10, 3) := by decide +kernel
theorem dL_ofScarecrow_215 : decode cL_ofScarecrow 215 = .ok (.aload 4, 2) := by decide +kernel
theorem dL_ofScarecrow_217 : decode cL_ofScarecrow 217 = .ok (.iconst 5, 1) := by decide +kernel
theorem dL_ofScarecrow_218 : decode cL_ofScarecrow 218 = .ok (.iaload, 1) := by decide +kernel
theorem dL_ofScarecrow_219 : decode cL_ofScarecrow 219 = .ok (.goto 5, 3) := by decide +kernel
theorem dL_ofScarecrow_222 : decode cL_ofScarecrow 222 = .ok (.iload 10, 2) := by decide +kernel
theorem dL_ofScarecrow_224 : decode cL_ofScarecrow 224 = .ok (.istore 10, 2) := by decide +kernel
theorem dL_ofScarecrow_226 : decode cL_ofScarecrow 226 = .ok (.aload 5, 2) := by decide +kernel
theorem dL_ofScarecrow_228 : decode cL_ofScarecrow 228 = .ok (.iconst 5, 1) := by decide +kernel
theorem dL_ofScarecrow_229 : decode cL_ofScarecrow 229 = .ok (.iload_n 1, 1) := by decide +kernel
theorem dL_ofScarecrow_230 : decode cL_ofScarecrow 230 = .ok (.imul, 1) := by decide +kernel
theorem dL_ofScarecrow_231 : decode cL_ofScarecrow 231 = .ok (.iconst 4, 1) := by decide +kernel
theorem dL_ofScarecrow_232 : decode cL_ofScarecrow 232 = .ok (.iadd, 1) := by decide +kernel
theorem dL_ofScarecrow_233 : decode cL_ofScarecrow 233 = .ok (.dup2, 1) := by decide +kernel
theorem dL_ofScarecrow_234 : decode cL_ofScarecrow 234 = .ok (.iaload, 1) := by decide +kernel
theorem dL_ofScarecrow_235 : decode cL_ofScarecrow 235 = .ok (.iload 10, 2) := by decide +kernel
theorem dL_ofScarecrow_237 : decode cL_ofScarecrow 237 = .ok (.iadd, 1) := by decide +kernel
theorem dL_ofScarecrow_238 : decode cL_ofScarecrow 238 = .ok (.iastore, 1) := by decide +kernel
theorem dL_ofScarecrow_239 : decode cL_ofScarecrow 239 = .ok (.aload 4, 2) := by decide +kernel
theorem dL_ofScarecrow_241 : decode cL_ofScarecrow 241 = .ok (.iconst 5, 1) := by decide +kernel
theorem dL_ofScarecrow_242 : decode cL_ofScarecrow 242 = .ok (.dup2, 1) := by decide +kernel
theorem dL_ofScarecrow_243 : decode cL_ofScarecrow 243 = .ok (.iaload, 1) := by decide +kernel
theorem dL_ofScarecrow_244 : decode cL_ofScarecrow 244 = .ok (.iload 10, 2) := by decide +kernel
theorem dL_ofScarecrow_246 : decode cL_ofScarecrow 246 = .ok (.isub, 1) := by decide +kernel
theorem dL_ofScarecrow_247 : decode cL_ofScarecrow 247 = .ok (.iastore, 1) := by decide +kernel
theorem dL_ofScarecrow_248 : decode cL_ofScarecrow 248 = .ok (.iload 10, 2) := by decide +kernel
theorem dL_ofScarecrow_250 : decode cL_ofScarecrow 250 = .ok (.ifCond .ne 8, 3) := by decide +kernel
theorem dL_ofScarecrow_253 : decode cL_ofScarecrow 253 = .ok (.bipush (-5), 2) := by decide +kernel
theorem dL_ofScarecrow_255 : decode cL_ofScarecrow 255 = .ok (.goto 5, 3) := by decide +kernel
theorem dL_ofScarecrow_258 : decode cL_ofScarecrow 258 = .ok (.iload 10, 2) := by decide +kernel
theorem dL_ofScarecrow_260 : decode cL_ofScarecrow 260 = .ok (.ireturn, 1) := by decide +kernel
theorem dL_due_0 : decode cL_due 0 = .ok (.iload_n 0, 1) := by decide +kernel
theorem dL_due_1 : decode cL_due 1 = .ok (.ifCond .ne 101, 3) := by decide +kernel
theorem dL_due_4 : decode cL_due 4 = .ok (.aload 4, 2) := by decide +kernel
theorem dL_due_6 : decode cL_due 6 = .ok (.bipush 10, 2) := by decide +kernel
theorem dL_due_8 : decode cL_due 8 = .ok (.iaload, 1) := by decide +kernel
theorem dL_due_9 : decode cL_due 9 = .ok (.bipush 12, 2) := by decide +kernel
theorem dL_due_11 : decode cL_due 11 = .ok (.if_icmp .ne 6, 3) := by decide +kernel
theorem dL_due_14 : decode cL_due 14 = .ok (.bipush (-3), 2) := by decide +kernel
theorem dL_due_16 : decode cL_due 16 = .ok (.ireturn, 1) := by decide +kernel
theorem dL_due_17 : decode cL_due 17 = .ok (.aload 4, 2) := by decide +kernel
theorem dL_due_19 : decode cL_due 19 = .ok (.bipush 10, 2) := by decide +kernel
theorem dL_due_21 : decode cL_due 21 = .ok (.iaload, 1) := by decide +kernel
theorem dL_due_22 : decode cL_due 22 = .ok (.istore 8, 2) := by decide +kernel
theorem dL_due_24 : decode cL_due 24 = .ok (.aload 5, 2) := by decide +kernel
theorem dL_due_26 : decode cL_due 26 = .ok (.iconst 5, 1) := by decide +kernel
theorem dL_due_27 : decode cL_due 27 = .ok (.iload 8, 2) := by decide +kernel
theorem dL_due_29 : decode cL_due 29 = .ok (.imul, 1) := by decide +kernel
theorem dL_due_30 : decode cL_due 30 = .ok (.iload_n 1, 1) := by decide +kernel
theorem dL_due_31 : decode cL_due 31 = .ok (.bipush 6, 2) := by decide +kernel
theorem dL_due_33 : decode cL_due 33 = .ok (.irem, 1) := by decide +kernel
theorem dL_due_34 : decode cL_due 34 = .ok (.iastore, 1) := by decide +kernel
theorem dL_due_35 : decode cL_due 35 = .ok (.aload 5, 2) := by decide +kernel
theorem dL_due_37 : decode cL_due 37 = .ok (.iconst 5, 1) := by decide +kernel
theorem dL_due_38 : decode cL_due 38 = .ok (.iload 8, 2) := by decide +kernel
theorem dL_due_40 : decode cL_due 40 = .ok (.imul, 1) := by decide +kernel
theorem dL_due_41 : decode cL_due 41 = .ok (.iconst 1, 1) := by decide +kernel
theorem dL_due_42 : decode cL_due 42 = .ok (.iadd, 1) := by decide +kernel
theorem dL_due_43 : decode cL_due 43 = .ok (.iconst 1, 1) := by decide +kernel
theorem dL_due_44 : decode cL_due 44 = .ok (.iload_n 2, 1) := by decide +kernel
theorem dL_due_45 : decode cL_due 45 = .ok (.iconst 5, 1) := by decide +kernel
theorem dL_due_46 : decode cL_due 46 = .ok (.irem, 1) := by decide +kernel
theorem dL_due_47 : decode cL_due 47 = .ok (.iadd, 1) := by decide +kernel
theorem dL_due_48 : decode cL_due 48 = .ok (.iastore, 1) := by decide +kernel
theorem dL_due_49 : decode cL_due 49 = .ok (.aload 5, 2) := by decide +kernel
theorem dL_due_51 : decode cL_due 51 = .ok (.iconst 5, 1) := by decide +kernel
theorem dL_due_52 : decode cL_due 52 = .ok (.iload 8, 2) := by decide +kernel
theorem dL_due_54 : decode cL_due 54 = .ok (.imul, 1) := by decide +kernel
theorem dL_due_55 : decode cL_due 55 = .ok (.iconst 2, 1) := by decide +kernel
theorem dL_due_56 : decode cL_due 56 = .ok (.iadd, 1) := by decide +kernel
theorem dL_due_57 : decode cL_due 57 = .ok (.iconst 1, 1) := by decide +kernel
theorem dL_due_58 : decode cL_due 58 = .ok (.iload_n 3, 1) := by decide +kernel
theorem dL_due_59 : decode cL_due 59 = .ok (.bipush 9, 2) := by decide +kernel
theorem dL_due_61 : decode cL_due 61 = .ok (.irem, 1) := by decide +kernel
theorem dL_due_62 : decode cL_due 62 = .ok (.iadd, 1) := by decide +kernel
theorem dL_due_63 : decode cL_due 63 = .ok (.iastore, 1) := by decide +kernel
theorem dL_due_64 : decode cL_due 64 = .ok (.aload 5, 2) := by decide +kernel
theorem dL_due_66 : decode cL_due 66 = .ok (.iconst 5, 1) := by decide +kernel
theorem dL_due_67 : decode cL_due 67 = .ok (.iload 8, 2) := by decide +kernel
theorem dL_due_69 : decode cL_due 69 = .ok (.imul, 1) := by decide +kernel
theorem dL_due_70 : decode cL_due 70 = .ok (.iconst 3, 1) := by decide +kernel
theorem dL_due_71 : decode cL_due 71 = .ok (.iadd, 1) := by decide +kernel
theorem dL_due_72 : decode cL_due 72 = .ok (.iload_n 3, 1) := by decide +kernel
theorem dL_due_73 : decode cL_due 73 = .ok (.bipush 9, 2) := by decide +kernel
theorem dL_due_75 : decode cL_due 75 = .ok (.idiv, 1) := by decide +kernel
theorem dL_due_76 : decode cL_due 76 = .ok (.iconst 4, 1) := by decide +kernel
theorem dL_due_77 : decode cL_due 77 = .ok (.irem, 1) := by decide +kernel
theorem dL_due_78 : decode cL_due 78 = .ok (.iastore, 1) := by decide +kernel
theorem dL_due_79 : decode cL_due 79 = .ok (.aload 5, 2) := by decide +kernel
theorem dL_due_81 : decode cL_due 81 = .ok (.iconst 5, 1) := by decide +kernel
theorem dL_due_82 : decode cL_due 82 = .ok (.iload 8, 2) := by decide +kernel
theorem dL_due_84 : decode cL_due 84 = .ok (.imul, 1) := by decide +kernel
theorem dL_due_85 : decode cL_due 85 = .ok (.iconst 4, 1) := by decide +kernel
theorem dL_due_86 : decode cL_due 86 = .ok (.iadd, 1) := by decide +kernel
theorem dL_due_87 : decode cL_due 87 = .ok (.bipush 64, 2) := by decide +kernel
theorem dL_due_89 : decode cL_due 89 = .ok (.iastore, 1) := by decide +kernel
theorem dL_due_90 : decode cL_due 90 = .ok (.aload 4, 2) := by decide +kernel
theorem dL_due_92 : decode cL_due 92 = .ok (.bipush 10, 2) := by decide +kernel
theorem dL_due_94 : decode cL_due 94 = .ok (.dup2, 1) := by decide +kernel
theorem dL_due_95 : decode cL_due 95 = .ok (.iaload, 1) := by decide +kernel
theorem dL_due_96 : decode cL_due 96 = .ok (.iconst 1, 1) := by decide +kernel
theorem dL_due_97 : decode cL_due 97 = .ok (.iadd, 1) := by decide +kernel
theorem dL_due_98 : decode cL_due 98 = .ok (.iastore, 1) := by decide +kernel
theorem dL_due_99 : decode cL_due 99 = .ok (.iload 8, 2) := by decide +kernel
theorem dL_due_101 : decode cL_due 101 = .ok (.ireturn, 1) := by decide +kernel
theorem dL_due_102 : decode cL_due 102 = .ok (.iload_n 0, 1) := by decide +kernel
theorem dL_due_103 : decode cL_due 103 = .ok (.bipush 6, 2) := by decide +kernel
theorem dL_due_105 : decode cL_due 105 = .ok (.if_icmp .ge 17, 3) := by decide +kernel
theorem dL_due_108 : decode cL_due 108 = .ok (.iload_n 0, 1) := by decide +kernel
theorem dL_due_109 : decode cL_due 109 = .ok (.iload_n 1, 1) := by decide +kernel
theorem dL_due_110 : decode cL_due 110 = .ok (.iload_n 2, 1) := by decide +kernel
theorem dL_due_111 : decode cL_due 111 = .ok (.iload_n 3, 1) := by decide +kernel
theorem dL_due_112 : decode cL_due 112 = .ok (.aload 4, 2) := by decide +kernel
theorem dL_due_114 : decode cL_due 114 = .ok (.aload 5, 2) := by decide +kernel
theorem dL_due_116 : decode cL_due 116 = .ok (.aload 6, 2) := by decide +kernel
theorem dL_due_118 : decode cL_due 118 = .ok (.invokestatic 75, 3) := by decide +kernel
theorem dL_due_121 : decode cL_due 121 = .ok (.ireturn, 1) := by decide +kernel
theorem dL_due_122 : decode cL_due 122 = .ok (.iload_n 0, 1) := by decide +kernel
theorem dL_due_123 : decode cL_due 123 = .ok (.bipush 7, 2) := by decide +kernel
theorem dL_due_125 : decode cL_due 125 = .ok (.if_icmp .ne 46, 3) := by decide +kernel
theorem dL_due_128 : decode cL_due 128 = .ok (.bipush 10, 2) := by decide +kernel
theorem dL_due_130 : decode cL_due 130 = .ok (.aload 4, 2) := by decide +kernel
theorem dL_due_132 : decode cL_due 132 = .ok (.iconst 3, 1) := by decide +kernel
theorem dL_due_133 : decode cL_due 133 = .ok (.iaload, 1) := by decide +kernel
theorem dL_due_134 : decode cL_due 134 = .ok (.imul, 1) := by decide +kernel
theorem dL_due_135 : decode cL_due 135 = .ok (.aload 4, 2) := by decide +kernel
theorem dL_due_137 : decode cL_due 137 = .ok (.iconst 4, 1) := by decide +kernel
theorem dL_due_138 : decode cL_due 138 = .ok (.iaload, 1) := by decide +kernel
theorem dL_due_139 : decode cL_due 139 = .ok (.iadd, 1) := by decide +kernel
theorem dL_due_140 : decode cL_due 140 = .ok (.istore 8, 2) := by decide +kernel
theorem dL_due_142 : decode cL_due 142 = .ok (.aload 4, 2) := by decide +kernel
theorem dL_due_144 : decode cL_due 144 = .ok (.iconst 3, 1) := by decide +kernel
theorem dL_due_145 : decode cL_due 145 = .ok (.iload_n 2, 1) := by decide +kernel
theorem dL_due_146 : decode cL_due 146 = .ok (.iastore, 1) := by decide +kernel
theorem dL_due_147 : decode cL_due 147 = .ok (.aload 4, 2) := by decide +kernel
theorem dL_due_149 : decode cL_due 149 = .ok (.iconst 4, 1) := by decide +kernel
theorem dL_due_150 : decode cL_due 150 = .ok (.iload_n 3, 1) := by decide +kernel
theorem dL_due_151 : decode cL_due 151 = .ok (.iastore, 1) := by decide +kernel
theorem dL_due_152 : decode cL_due 152 = .ok (.iload 8, 2) := by decide +kernel
theorem dL_due_154 : decode cL_due 154 = .ok (.bipush 10, 2) := by decide +kernel
theorem dL_due_156 : decode cL_due 156 = .ok (.iload_n 2, 1) := by decide +kernel
theorem dL_due_157 : decode cL_due 157 = .ok (.imul, 1) := by decide +kernel
theorem dL_due_158 : decode cL_due 158 = .ok (.iload_n 3, 1) := by decide +kernel
theorem dL_due_159 : decode cL_due 159 = .ok (.iadd, 1) := by decide +kernel
theorem dL_due_160 : decode cL_due 160 = .ok (.if_icmp .ne 8, 3) := by decide +kernel
theorem dL_due_163 : decode cL_due 163 = .ok (.bipush (-5), 2) := by decide +kernel
theorem dL_due_165 : decode cL_due 165 = .ok (.goto 5, 3) := by decide +kernel
theorem dL_due_168 : decode cL_due 168 = .ok (.iload 8, 2) := by decide +kernel
theorem dL_due_170 : decode cL_due 170 = .ok (.ireturn, 1) := by decide +kernel
theorem dL_due_171 : decode cL_due 171 = .ok (.iload_n 0, 1) := by decide +kernel
theorem dL_due_172 : decode cL_due 172 = .ok (.bipush 6, 2) := by decide +kernel
theorem dL_due_174 : decode cL_due 174 = .ok (.if_icmp .eq 9, 3) := by decide +kernel
theorem dL_due_177 : decode cL_due 177 = .ok (.iload_n 0, 1) := by decide +kernel
theorem dL_due_178 : decode cL_due 178 = .ok (.bipush 8, 2) := by decide +kernel
theorem dL_due_180 : decode cL_due 180 = .ok (.if_icmp .ne 60, 3) := by decide +kernel
theorem dL_due_183 : decode cL_due 183 = .ok (.iload_n 0, 1) := by decide +kernel
theorem dL_due_184 : decode cL_due 184 = .ok (.bipush 6, 2) := by decide +kernel
theorem dL_due_186 : decode cL_due 186 = .ok (.if_icmp .ne 10, 3) := by decide +kernel
theorem dL_due_189 : decode cL_due 189 = .ok (.bipush 11, 2) := by decide +kernel
theorem dL_due_191 : decode cL_due 191 = .ok (.iload_n 1, 1) := by decide +kernel
theorem dL_due_192 : decode cL_due 192 = .ok (.iadd, 1) := by decide +kernel
theorem dL_due_193 : decode cL_due 193 = .ok (.goto 4, 3) := by decide +kernel
theorem dL_due_196 : decode cL_due 196 = .ok (.iload_n 1, 1) := by decide +kernel
theorem dL_due_197 : decode cL_due 197 = .ok (.istore 8, 2) := by decide +kernel
theorem dL_due_199 : decode cL_due 199 = .ok (.aload 4, 2) := by decide +kernel
theorem dL_due_201 : decode cL_due 201 = .ok (.iload 8, 2) := by decide +kernel
theorem dL_due_203 : decode cL_due 203 = .ok (.iaload, 1) := by decide +kernel
theorem dL_due_204 : decode cL_due 204 = .ok (.istore 9, 2) := by decide +kernel
theorem dL_due_206 : decode cL_due 206 = .ok (.aload 4, 2) := by decide +kernel
theorem dL_due_208 : decode cL_due 208 = .ok (.iload 8, 2) := by decide +kernel
theorem dL_due_210 : decode cL_due 210 = .ok (.iload_n 0, 1) := by decide +kernel
theorem dL_due_211 : decode cL_due 211 = .ok (.bipush 6, 2) := by decide +kernel
theorem dL_due_213 : decode cL_due 213 = .ok (.if_icmp .ne 7, 3) := by decide +kernel
theorem dL_due_216 : decode cL_due 216 = .ok (.iload_n 2, 1) := by decide +kernel
theorem dL_due_217 : decode cL_due 217 = .ok (.goto 4, 3) := by decide +kernel
theorem dL_due_220 : decode cL_due 220 = .ok (.iload_n 3, 1) := by decide +kernel
theorem dL_due_221 : decode cL_due 221 = .ok (.iastore, 1) := by decide +kernel
theorem dL_due_222 : decode cL_due 222 = .ok (.iload 9, 2) := by decide +kernel
theorem dL_due_224 : decode cL_due 224 = .ok (.aload 4, 2) := by decide +kernel
theorem dL_due_226 : decode cL_due 226 = .ok (.iload 8, 2) := by decide +kernel
theorem dL_due_228 : decode cL_due 228 = .ok (.iaload, 1) := by decide +kernel
theorem dL_due_229 : decode cL_due 229 = .ok (.if_icmp .ne 8, 3) := by decide +kernel
theorem dL_due_232 : decode cL_due 232 = .ok (.bipush (-5), 2) := by decide +kernel
theorem dL_due_234 : decode cL_due 234 = .ok (.goto 5, 3) := by decide +kernel
theorem dL_due_237 : decode cL_due 237 = .ok (.iload 9, 2) := by decide +kernel
theorem dL_due_239 : decode cL_due 239 = .ok (.ireturn, 1) := by decide +kernel
theorem dL_due_240 : decode cL_due 240 = .ok (.iload_n 0, 1) := by decide +kernel
theorem dL_due_241 : decode cL_due 241 = .ok (.bipush 9, 2) := by decide +kernel
theorem dL_due_243 : decode cL_due 243 = .ok (.if_icmp .ne 69, 3) := by decide +kernel
theorem dL_due_246 : decode cL_due 246 = .ok (.aload 4, 2) := by decide +kernel
theorem dL_due_248 : decode cL_due 248 = .ok (.iconst 1, 1) := by decide +kernel
theorem dL_due_249 : decode cL_due 249 = .ok (.iaload, 1) := by decide +kernel
theorem dL_due_250 : decode cL_due 250 = .ok (.aload 4, 2) := by decide +kernel
theorem dL_due_252 : decode cL_due 252 = .ok (.aload 5, 2) := by decide +kernel
theorem dL_due_254 : decode cL_due 254 = .ok (.aload 6, 2) := by decide +kernel
theorem dL_due_256 : decode cL_due 256 = .ok (.invokestatic 79, 3) := by decide +kernel
theorem dL_due_259 : decode cL_due 259 = .ok (.istore 8, 2) := by decide +kernel
theorem dL_due_261 : decode cL_due 261 = .ok (.aload 4, 2) := by decide +kernel
theorem dL_due_263 : decode cL_due 263 = .ok (.bipush 8, 2) := by decide +kernel
theorem dL_due_265 : decode cL_due 265 = .ok (.dup2, 1) := by decide +kernel
theorem dL_due_266 : decode cL_due 266 = .ok (.iaload, 1) := by decide +kernel
theorem dL_due_267 : decode cL_due 267 = .ok (.iload 8, 2) := by decide +kernel
theorem dL_due_269 : decode cL_due 269 = .ok (.ifCond .ge 7, 3) := by decide +kernel
theorem dL_due_272 : decode cL_due 272 = .ok (.iconst 0, 1) := by decide +kernel
theorem dL_due_273 : decode cL_due 273 = .ok (.goto 4, 3) := by decide +kernel
theorem dL_due_276 : decode cL_due 276 = .ok (.iconst 1, 1) := by decide +kernel
theorem dL_due_277 : decode cL_due 277 = .ok (.iadd, 1) := by decide +kernel
theorem dL_due_278 : decode cL_due 278 = .ok (.iastore, 1) := by decide +kernel
theorem dL_due_279 : decode cL_due 279 = .ok (.aload 4, 2) := by decide +kernel
theorem dL_due_281 : decode cL_due 281 = .ok (.bipush 9, 2) := by decide +kernel
theorem dL_due_283 : decode cL_due 283 = .ok (.iload 8, 2) := by decide +kernel
theorem dL_due_285 : decode cL_due 285 = .ok (.ifCond .ge 11, 3) := by decide +kernel
theorem dL_due_288 : decode cL_due 288 = .ok (.aload 4, 2) := by decide +kernel
theorem dL_due_290 : decode cL_due 290 = .ok (.bipush 9, 2) := by decide +kernel
theorem dL_due_292 : decode cL_due 292 = .ok (.iaload, 1) := by decide +kernel
theorem dL_due_293 : decode cL_due 293 = .ok (.goto 5, 3) := by decide +kernel
theorem dL_due_296 : decode cL_due 296 = .ok (.iload 8, 2) := by decide +kernel
theorem dL_due_298 : decode cL_due 298 = .ok (.iastore, 1) := by decide +kernel
theorem dL_due_299 : decode cL_due 299 = .ok (.iload 8, 2) := by decide +kernel
theorem dL_due_301 : decode cL_due 301 = .ok (.ifCond .ge 8, 3) := by decide +kernel
theorem dL_due_304 : decode cL_due 304 = .ok (.bipush (-4), 2) := by decide +kernel
theorem dL_due_306 : decode cL_due 306 = .ok (.goto 5, 3) := by decide +kernel
theorem dL_due_309 : decode cL_due 309 = .ok (.iload 8, 2) := by decide +kernel
theorem dL_due_311 : decode cL_due 311 = .ok (.ireturn, 1) := by decide +kernel
theorem dL_due_312 : decode cL_due 312 = .ok (.iconst 0, 1) := by decide +kernel
theorem dL_due_313 : decode cL_due 313 = .ok (.istore 8, 2) := by decide +kernel
theorem dL_due_315 : decode cL_due 315 = .ok (.iconst 0, 1) := by decide +kernel
theorem dL_due_316 : decode cL_due 316 = .ok (.istore 9, 2) := by decide +kernel
theorem dL_due_318 : decode cL_due 318 = .ok (.iload 9, 2) := by decide +kernel
theorem dL_due_320 : decode cL_due 320 = .ok (.iload_n 3, 1) := by decide +kernel
theorem dL_due_321 : decode cL_due 321 = .ok (.if_icmp .ge 25, 3) := by decide +kernel
theorem dL_due_324 : decode cL_due 324 = .ok (.iload 8, 2) := by decide +kernel
theorem dL_due_326 : decode cL_due 326 = .ok (.aload 4, 2) := by decide +kernel
theorem dL_due_328 : decode cL_due 328 = .ok (.aload 5, 2) := by decide +kernel
theorem dL_due_330 : decode cL_due 330 = .ok (.aload 6, 2) := by decide +kernel
theorem dL_due_332 : decode cL_due 332 = .ok (.aload 7, 2) := by decide +kernel
theorem dL_due_334 : decode cL_due 334 = .ok (.invokestatic 83, 3) := by decide +kernel
theorem dL_due_337 : decode cL_due 337 = .ok (.iadd, 1) := by decide +kernel
theorem dL_due_338 : decode cL_due 338 = .ok (.istore 8, 2) := by decide +kernel
theorem dL_due_340 : decode cL_due 340 = .ok (.iinc 9 1, 3) := by decide +kernel
theorem dL_due_343 : decode cL_due 343 = .ok (.goto (-25), 3) := by decide +kernel
theorem dL_due_346 : decode cL_due 346 = .ok (.iload 8, 2) := by decide +kernel
theorem dL_due_348 : decode cL_due 348 = .ok (.ireturn, 1) := by decide +kernel
theorem dL_isScarecrow_0 : decode cL_isScarecrow 0 = .ok (.aload_n 0, 1) := by decide +kernel
theorem dL_isScarecrow_1 : decode cL_isScarecrow 1 = .ok (.iload_n 1, 1) := by decide +kernel
theorem dL_isScarecrow_2 : decode cL_isScarecrow 2 = .ok (.invokevirtual 87, 3) := by decide +kernel
theorem dL_isScarecrow_5 : decode cL_isScarecrow 5 = .ok (.aload_n 2, 1) := by decide +kernel
theorem dL_isScarecrow_6 : decode cL_isScarecrow 6 = .ok (.iconst 5, 1) := by decide +kernel
theorem dL_isScarecrow_7 : decode cL_isScarecrow 7 = .ok (.iload_n 1, 1) := by decide +kernel
theorem dL_isScarecrow_8 : decode cL_isScarecrow 8 = .ok (.imul, 1) := by decide +kernel
theorem dL_isScarecrow_9 : decode cL_isScarecrow 9 = .ok (.iconst 4, 1) := by decide +kernel
theorem dL_isScarecrow_10 : decode cL_isScarecrow 10 = .ok (.iadd, 1) := by decide +kernel
theorem dL_isScarecrow_11 : decode cL_isScarecrow 11 = .ok (.iaload, 1) := by decide +kernel
theorem dL_isScarecrow_12 : decode cL_isScarecrow 12 = .ok (.i2d, 1) := by decide +kernel
theorem dL_isScarecrow_13 : decode cL_isScarecrow 13 = .ok (.ldc2_w 91, 3) := by decide +kernel
theorem dL_isScarecrow_16 : decode cL_isScarecrow 16 = .ok (.ddiv, 1) := by decide +kernel
theorem dL_isScarecrow_17 : decode cL_isScarecrow 17 = .ok (.dcmp .l, 1) := by decide +kernel
theorem dL_isScarecrow_18 : decode cL_isScarecrow 18 = .ok (.ifCond .ne 55, 3) := by decide +kernel
theorem dL_isScarecrow_21 : decode cL_isScarecrow 21 = .ok (.aload_n 0, 1) := by decide +kernel
theorem dL_isScarecrow_22 : decode cL_isScarecrow 22 = .ok (.iload_n 1, 1) := by decide +kernel
theorem dL_isScarecrow_23 : decode cL_isScarecrow 23 = .ok (.iconst 4, 1) := by decide +kernel
theorem dL_isScarecrow_24 : decode cL_isScarecrow 24 = .ok (.invokevirtual 93, 3) := by decide +kernel
theorem dL_isScarecrow_27 : decode cL_isScarecrow 27 = .ok (.iload_n 1, 1) := by decide +kernel
theorem dL_isScarecrow_28 : decode cL_isScarecrow 28 = .ok (.aload_n 3, 1) := by decide +kernel
theorem dL_isScarecrow_29 : decode cL_isScarecrow 29 = .ok (.invokestatic 34, 3) := by decide +kernel
theorem dL_isScarecrow_32 : decode cL_isScarecrow 32 = .ok (.if_icmp .ne 41, 3) := by decide +kernel
theorem dL_isScarecrow_35 : decode cL_isScarecrow 35 = .ok (.aload_n 0, 1) := by decide +kernel
theorem dL_isScarecrow_36 : decode cL_isScarecrow 36 = .ok (.iload_n 1, 1) := by decide +kernel
theorem dL_isScarecrow_37 : decode cL_isScarecrow 37 = .ok (.bipush 9, 2) := by decide +kernel
theorem dL_isScarecrow_39 : decode cL_isScarecrow 39 = .ok (.invokevirtual 93, 3) := by decide +kernel
theorem dL_isScarecrow_42 : decode cL_isScarecrow 42 = .ok (.aload 4, 2) := by decide +kernel
theorem dL_isScarecrow_44 : decode cL_isScarecrow 44 = .ok (.iconst 2, 1) := by decide +kernel
theorem dL_isScarecrow_45 : decode cL_isScarecrow 45 = .ok (.iload_n 1, 1) := by decide +kernel
theorem dL_isScarecrow_46 : decode cL_isScarecrow 46 = .ok (.imul, 1) := by decide +kernel
theorem dL_isScarecrow_47 : decode cL_isScarecrow 47 = .ok (.iaload, 1) := by decide +kernel
theorem dL_isScarecrow_48 : decode cL_isScarecrow 48 = .ok (.if_icmp .ne 25, 3) := by decide +kernel
theorem dL_isScarecrow_51 : decode cL_isScarecrow 51 = .ok (.aload_n 0, 1) := by decide +kernel
theorem dL_isScarecrow_52 : decode cL_isScarecrow 52 = .ok (.iload_n 1, 1) := by decide +kernel
theorem dL_isScarecrow_53 : decode cL_isScarecrow 53 = .ok (.bipush 10, 2) := by decide +kernel
theorem dL_isScarecrow_55 : decode cL_isScarecrow 55 = .ok (.invokevirtual 93, 3) := by decide +kernel
theorem dL_isScarecrow_58 : decode cL_isScarecrow 58 = .ok (.aload 4, 2) := by decide +kernel
theorem dL_isScarecrow_60 : decode cL_isScarecrow 60 = .ok (.iconst 2, 1) := by decide +kernel
theorem dL_isScarecrow_61 : decode cL_isScarecrow 61 = .ok (.iload_n 1, 1) := by decide +kernel
theorem dL_isScarecrow_62 : decode cL_isScarecrow 62 = .ok (.imul, 1) := by decide +kernel
theorem dL_isScarecrow_63 : decode cL_isScarecrow 63 = .ok (.iconst 1, 1) := by decide +kernel
theorem dL_isScarecrow_64 : decode cL_isScarecrow 64 = .ok (.iadd, 1) := by decide +kernel
theorem dL_isScarecrow_65 : decode cL_isScarecrow 65 = .ok (.iaload, 1) := by decide +kernel
theorem dL_isScarecrow_66 : decode cL_isScarecrow 66 = .ok (.if_icmp .ne 7, 3) := by decide +kernel
theorem dL_isScarecrow_69 : decode cL_isScarecrow 69 = .ok (.iconst 1, 1) := by decide +kernel
theorem dL_isScarecrow_70 : decode cL_isScarecrow 70 = .ok (.goto 4, 3) := by decide +kernel
theorem dL_isScarecrow_73 : decode cL_isScarecrow 73 = .ok (.iconst 0, 1) := by decide +kernel
theorem dL_isScarecrow_74 : decode cL_isScarecrow 74 = .ok (.istore 5, 2) := by decide +kernel
theorem dL_isScarecrow_76 : decode cL_isScarecrow 76 = .ok (.iconst 0, 1) := by decide +kernel
theorem dL_isScarecrow_77 : decode cL_isScarecrow 77 = .ok (.istore 6, 2) := by decide +kernel
theorem dL_isScarecrow_79 : decode cL_isScarecrow 79 = .ok (.iload 6, 2) := by decide +kernel
theorem dL_isScarecrow_81 : decode cL_isScarecrow 81 = .ok (.iconst 4, 1) := by decide +kernel
theorem dL_isScarecrow_82 : decode cL_isScarecrow 82 = .ok (.if_icmp .ge 59, 3) := by decide +kernel
theorem dL_isScarecrow_85 : decode cL_isScarecrow 85 = .ok (.iload 5, 2) := by decide +kernel
theorem dL_isScarecrow_87 : decode cL_isScarecrow 87 = .ok (.ifCond .eq 45, 3) := by decide +kernel
theorem dL_isScarecrow_90 : decode cL_isScarecrow 90 = .ok (.aload_n 0, 1) := by decide +kernel
theorem dL_isScarecrow_91 : decode cL_isScarecrow 91 = .ok (.iload_n 1, 1) := by decide +kernel
theorem dL_isScarecrow_92 : decode cL_isScarecrow 92 = .ok (.iload 6, 2) := by decide +kernel
theorem dL_isScarecrow_94 : decode cL_isScarecrow 94 = .ok (.invokevirtual 93, 3) := by decide +kernel
theorem dL_isScarecrow_97 : decode cL_isScarecrow 97 = .ok (.aload_n 2, 1) := by decide +kernel
theorem dL_isScarecrow_98 : decode cL_isScarecrow 98 = .ok (.iconst 5, 1) := by decide +kernel
theorem dL_isScarecrow_99 : decode cL_isScarecrow 99 = .ok (.iload_n 1, 1) := by decide +kernel
theorem dL_isScarecrow_100 : decode cL_isScarecrow 100 = .ok (.imul, 1) := by decide +kernel
theorem dL_isScarecrow_101 : decode cL_isScarecrow 101 = .ok (.iload 6, 2) := by decide +kernel
theorem dL_isScarecrow_103 : decode cL_isScarecrow 103 = .ok (.iadd, 1) := by decide +kernel
theorem dL_isScarecrow_104 : decode cL_isScarecrow 104 = .ok (.iaload, 1) := by decide +kernel
theorem dL_isScarecrow_105 : decode cL_isScarecrow 105 = .ok (.if_icmp .ne 27, 3) := by decide +kernel
theorem dL_isScarecrow_108 : decode cL_isScarecrow 108 = .ok (.aload_n 0, 1) := by decide +kernel
theorem dL_isScarecrow_109 : decode cL_isScarecrow 109 = .ok (.iload_n 1, 1) := by decide +kernel
theorem dL_isScarecrow_110 : decode cL_isScarecrow 110 = .ok (.iconst 5, 1) := by decide +kernel
theorem dL_isScarecrow_111 : decode cL_isScarecrow 111 = .ok (.iload 6, 2) := by decide +kernel
theorem dL_isScarecrow_113 : decode cL_isScarecrow 113 = .ok (.iadd, 1) := by decide +kernel
theorem dL_isScarecrow_114 : decode cL_isScarecrow 114 = .ok (.invokevirtual 93, 3) := by decide +kernel
theorem dL_isScarecrow_117 : decode cL_isScarecrow 117 = .ok (.aload_n 3, 1) := by decide +kernel
theorem dL_isScarecrow_118 : decode cL_isScarecrow 118 = .ok (.iconst 4, 1) := by decide +kernel
theorem dL_isScarecrow_119 : decode cL_isScarecrow 119 = .ok (.iload_n 1, 1) := by decide +kernel
theorem dL_isScarecrow_120 : decode cL_isScarecrow 120 = .ok (.imul, 1) := by decide +kernel
theorem dL_isScarecrow_121 : decode cL_isScarecrow 121 = .ok (.iload 6, 2) := by decide +kernel
theorem dL_isScarecrow_123 : decode cL_isScarecrow 123 = .ok (.iadd, 1) := by decide +kernel
theorem dL_isScarecrow_124 : decode cL_isScarecrow 124 = .ok (.iaload, 1) := by decide +kernel
theorem dL_isScarecrow_125 : decode cL_isScarecrow 125 = .ok (.if_icmp .ne 7, 3) := by decide +kernel
theorem dL_isScarecrow_128 : decode cL_isScarecrow 128 = .ok (.iconst 1, 1) := by decide +kernel
theorem dL_isScarecrow_129 : decode cL_isScarecrow 129 = .ok (.goto 4, 3) := by decide +kernel
theorem dL_isScarecrow_132 : decode cL_isScarecrow 132 = .ok (.iconst 0, 1) := by decide +kernel
theorem dL_isScarecrow_133 : decode cL_isScarecrow 133 = .ok (.istore 5, 2) := by decide +kernel
theorem dL_isScarecrow_135 : decode cL_isScarecrow 135 = .ok (.iinc 6 1, 3) := by decide +kernel
theorem dL_isScarecrow_138 : decode cL_isScarecrow 138 = .ok (.goto (-59), 3) := by decide +kernel
theorem dL_isScarecrow_141 : decode cL_isScarecrow 141 = .ok (.iload 5, 2) := by decide +kernel
theorem dL_isScarecrow_143 : decode cL_isScarecrow 143 = .ok (.ireturn, 1) := by decide +kernel
theorem dL_isField_0 : decode cL_isField 0 = .ok (.iconst 0, 1) := by decide +kernel
theorem dL_isField_1 : decode cL_isField 1 = .ok (.istore 5, 2) := by decide +kernel
theorem dL_isField_3 : decode cL_isField 3 = .ok (.iconst 0, 1) := by decide +kernel
theorem dL_isField_4 : decode cL_isField 4 = .ok (.istore 6, 2) := by decide +kernel
theorem dL_isField_6 : decode cL_isField 6 = .ok (.iload 6, 2) := by decide +kernel
theorem dL_isField_8 : decode cL_isField 8 = .ok (.aload_n 2, 1) := by decide +kernel
theorem dL_isField_9 : decode cL_isField 9 = .ok (.bipush 10, 2) := by decide +kernel
theorem dL_isField_11 : decode cL_isField 11 = .ok (.iaload, 1) := by decide +kernel
theorem dL_isField_12 : decode cL_isField 12 = .ok (.if_icmp .ge 32, 3) := by decide +kernel
theorem dL_isField_15 : decode cL_isField 15 = .ok (.iload 5, 2) := by decide +kernel
theorem dL_isField_17 : decode cL_isField 17 = .ok (.aload_n 3, 1) := by decide +kernel
theorem dL_isField_18 : decode cL_isField 18 = .ok (.iconst 5, 1) := by decide +kernel
theorem dL_isField_19 : decode cL_isField 19 = .ok (.iload 6, 2) := by decide +kernel
theorem dL_isField_21 : decode cL_isField 21 = .ok (.imul, 1) := by decide +kernel
theorem dL_isField_22 : decode cL_isField 22 = .ok (.iaload, 1) := by decide +kernel
theorem dL_isField_23 : decode cL_isField 23 = .ok (.iload_n 1, 1) := by decide +kernel
theorem dL_isField_24 : decode cL_isField 24 = .ok (.if_icmp .ne 10, 3) := by decide +kernel
theorem dL_isField_27 : decode cL_isField 27 = .ok (.iconst 1, 1) := by decide +kernel
theorem dL_isField_28 : decode cL_isField 28 = .ok (.iload 6, 2) := by decide +kernel
theorem dL_isField_30 : decode cL_isField 30 = .ok (.ishl, 1) := by decide +kernel
theorem dL_isField_31 : decode cL_isField 31 = .ok (.goto 4, 3) := by decide +kernel
theorem dL_isField_34 : decode cL_isField 34 = .ok (.iconst 0, 1) := by decide +kernel
theorem dL_isField_35 : decode cL_isField 35 = .ok (.ior, 1) := by decide +kernel
theorem dL_isField_36 : decode cL_isField 36 = .ok (.istore 5, 2) := by decide +kernel
theorem dL_isField_38 : decode cL_isField 38 = .ok (.iinc 6 1, 3) := by decide +kernel
theorem dL_isField_41 : decode cL_isField 41 = .ok (.goto (-35), 3) := by decide +kernel
theorem dL_isField_44 : decode cL_isField 44 = .ok (.iload_n 1, 1) := by decide +kernel
theorem dL_isField_45 : decode cL_isField 45 = .ok (.aload_n 2, 1) := by decide +kernel
theorem dL_isField_46 : decode cL_isField 46 = .ok (.iconst 1, 1) := by decide +kernel
theorem dL_isField_47 : decode cL_isField 47 = .ok (.iaload, 1) := by decide +kernel
theorem dL_isField_48 : decode cL_isField 48 = .ok (.aload_n 2, 1) := by decide +kernel
theorem dL_isField_49 : decode cL_isField 49 = .ok (.aload_n 3, 1) := by decide +kernel
theorem dL_isField_50 : decode cL_isField 50 = .ok (.aload 4, 2) := by decide +kernel
theorem dL_isField_52 : decode cL_isField 52 = .ok (.invokestatic 22, 3) := by decide +kernel
theorem dL_isField_55 : decode cL_isField 55 = .ok (.istore 6, 2) := by decide +kernel
theorem dL_isField_57 : decode cL_isField 57 = .ok (.aload_n 0, 1) := by decide +kernel
theorem dL_isField_58 : decode cL_isField 58 = .ok (.iload_n 1, 1) := by decide +kernel
theorem dL_isField_59 : decode cL_isField 59 = .ok (.iconst 0, 1) := by decide +kernel
theorem dL_isField_60 : decode cL_isField 60 = .ok (.invokevirtual 96, 3) := by decide +kernel
theorem dL_isField_63 : decode cL_isField 63 = .ok (.aload_n 2, 1) := by decide +kernel
theorem dL_isField_64 : decode cL_isField 64 = .ok (.bipush 11, 2) := by decide +kernel
theorem dL_isField_66 : decode cL_isField 66 = .ok (.iload_n 1, 1) := by decide +kernel
theorem dL_isField_67 : decode cL_isField 67 = .ok (.iadd, 1) := by decide +kernel
theorem dL_isField_68 : decode cL_isField 68 = .ok (.iaload, 1) := by decide +kernel
theorem dL_isField_69 : decode cL_isField 69 = .ok (.if_icmp .ne 82, 3) := by decide +kernel
theorem dL_isField_72 : decode cL_isField 72 = .ok (.aload_n 0, 1) := by decide +kernel
theorem dL_isField_73 : decode cL_isField 73 = .ok (.iload_n 1, 1) := by decide +kernel
theorem dL_isField_74 : decode cL_isField 74 = .ok (.iconst 1, 1) := by decide +kernel
theorem dL_isField_75 : decode cL_isField 75 = .ok (.invokevirtual 96, 3) := by decide +kernel
theorem dL_isField_78 : decode cL_isField 78 = .ok (.iload 5, 2) := by decide +kernel
theorem dL_isField_80 : decode cL_isField 80 = .ok (.if_icmp .ne 71, 3) := by decide +kernel
theorem dL_isField_83 : decode cL_isField 83 = .ok (.aload_n 0, 1) := by decide +kernel
theorem dL_isField_84 : decode cL_isField 84 = .ok (.iload_n 1, 1) := by decide +kernel
theorem dL_isField_85 : decode cL_isField 85 = .ok (.iconst 2, 1) := by decide +kernel
theorem dL_isField_86 : decode cL_isField 86 = .ok (.invokevirtual 96, 3) := by decide +kernel
theorem dL_isField_89 : decode cL_isField 89 = .ok (.iload 6, 2) := by decide +kernel
theorem dL_isField_91 : decode cL_isField 91 = .ok (.invokestatic 26, 3) := by decide +kernel
theorem dL_isField_94 : decode cL_isField 94 = .ok (.if_icmp .ne 57, 3) := by decide +kernel
theorem dL_isField_97 : decode cL_isField 97 = .ok (.aload_n 0, 1) := by decide +kernel
theorem dL_isField_98 : decode cL_isField 98 = .ok (.iload_n 1, 1) := by decide +kernel
theorem dL_isField_99 : decode cL_isField 99 = .ok (.iconst 3, 1) := by decide +kernel
theorem dL_isField_100 : decode cL_isField 100 = .ok (.invokevirtual 96, 3) := by decide +kernel
theorem dL_isField_103 : decode cL_isField 103 = .ok (.iload_n 1, 1) := by decide +kernel
theorem dL_isField_104 : decode cL_isField 104 = .ok (.aload_n 2, 1) := by decide +kernel
theorem dL_isField_105 : decode cL_isField 105 = .ok (.aload_n 3, 1) := by decide +kernel
theorem dL_isField_106 : decode cL_isField 106 = .ok (.invokestatic 12, 3) := by decide +kernel
theorem dL_isField_109 : decode cL_isField 109 = .ok (.if_icmp .ne 42, 3) := by decide +kernel
theorem dL_isField_112 : decode cL_isField 112 = .ok (.aload_n 0, 1) := by decide +kernel
theorem dL_isField_113 : decode cL_isField 113 = .ok (.iload_n 1, 1) := by decide +kernel
theorem dL_isField_114 : decode cL_isField 114 = .ok (.invokevirtual 99, 3) := by decide +kernel
theorem dL_isField_117 : decode cL_isField 117 = .ok (.iload 6, 2) := by decide +kernel
theorem dL_isField_119 : decode cL_isField 119 = .ok (.bipush 25, 2) := by decide +kernel
theorem dL_isField_121 : decode cL_isField 121 = .ok (.if_icmp .ne 7, 3) := by decide +kernel
theorem dL_isField_124 : decode cL_isField 124 = .ok (.iconst 3, 1) := by decide +kernel
theorem dL_isField_125 : decode cL_isField 125 = .ok (.goto 19, 3) := by decide +kernel
theorem dL_isField_128 : decode cL_isField 128 = .ok (.iload 6, 2) := by decide +kernel
theorem dL_isField_130 : decode cL_isField 130 = .ok (.bipush 35, 2) := by decide +kernel
theorem dL_isField_132 : decode cL_isField 132 = .ok (.if_icmp .ne 7, 3) := by decide +kernel
theorem dL_isField_135 : decode cL_isField 135 = .ok (.iconst 4, 1) := by decide +kernel
theorem dL_isField_136 : decode cL_isField 136 = .ok (.goto 8, 3) := by decide +kernel
theorem dL_isField_139 : decode cL_isField 139 = .ok (.iload 6, 2) := by decide +kernel
theorem dL_isField_141 : decode cL_isField 141 = .ok (.bipush 10, 2) := by decide +kernel
theorem dL_isField_143 : decode cL_isField 143 = .ok (.idiv, 1) := by decide +kernel
theorem dL_isField_144 : decode cL_isField 144 = .ok (.if_icmp .ne 7, 3) := by decide +kernel
theorem dL_isField_147 : decode cL_isField 147 = .ok (.iconst 1, 1) := by decide +kernel
theorem dL_isField_148 : decode cL_isField 148 = .ok (.goto 4, 3) := by decide +kernel
theorem dL_isField_151 : decode cL_isField 151 = .ok (.iconst 0, 1) := by decide +kernel
theorem dL_isField_152 : decode cL_isField 152 = .ok (.istore 7, 2) := by decide +kernel
theorem dL_isField_154 : decode cL_isField 154 = .ok (.iconst 0, 1) := by decide +kernel
theorem dL_isField_155 : decode cL_isField 155 = .ok (.istore 8, 2) := by decide +kernel
theorem dL_isField_157 : decode cL_isField 157 = .ok (.iload 8, 2) := by decide +kernel
theorem dL_isField_159 : decode cL_isField 159 = .ok (.iconst 4, 1) := by decide +kernel
theorem dL_isField_160 : decode cL_isField 160 = .ok (.if_icmp .ge 46, 3) := by decide +kernel
theorem dL_isField_163 : decode cL_isField 163 = .ok (.iload 7, 2) := by decide +kernel
theorem dL_isField_165 : decode cL_isField 165 = .ok (.ifCond .eq 32, 3) := by decide +kernel
theorem dL_isField_168 : decode cL_isField 168 = .ok (.aload_n 0, 1) := by decide +kernel
theorem dL_isField_169 : decode cL_isField 169 = .ok (.iload_n 1, 1) := by decide +kernel
theorem dL_isField_170 : decode cL_isField 170 = .ok (.iload 8, 2) := by decide +kernel
theorem dL_isField_172 : decode cL_isField 172 = .ok (.invokevirtual 102, 3) := by decide +kernel
theorem dL_isField_175 : decode cL_isField 175 = .ok (.iload_n 1, 1) := by decide +kernel
theorem dL_isField_176 : decode cL_isField 176 = .ok (.iload 8, 2) := by decide +kernel
theorem dL_isField_178 : decode cL_isField 178 = .ok (.aload_n 2, 1) := by decide +kernel
theorem dL_isField_179 : decode cL_isField 179 = .ok (.iconst 1, 1) := by decide +kernel
theorem dL_isField_180 : decode cL_isField 180 = .ok (.iaload, 1) := by decide +kernel
theorem dL_isField_181 : decode cL_isField 181 = .ok (.aload_n 2, 1) := by decide +kernel
theorem dL_isField_182 : decode cL_isField 182 = .ok (.aload_n 3, 1) := by decide +kernel
theorem dL_isField_183 : decode cL_isField 183 = .ok (.aload 4, 2) := by decide +kernel
theorem dL_isField_185 : decode cL_isField 185 = .ok (.invokestatic 18, 3) := by decide +kernel
theorem dL_isField_188 : decode cL_isField 188 = .ok (.f2d, 1) := by decide +kernel
theorem dL_isField_189 : decode cL_isField 189 = .ok (.dcmp .l, 1) := by decide +kernel
theorem dL_isField_190 : decode cL_isField 190 = .ok (.ifCond .ne 7, 3) := by decide +kernel
theorem dL_isField_193 : decode cL_isField 193 = .ok (.iconst 1, 1) := by decide +kernel
theorem dL_isField_194 : decode cL_isField 194 = .ok (.goto 4, 3) := by decide +kernel
theorem dL_isField_197 : decode cL_isField 197 = .ok (.iconst 0, 1) := by decide +kernel
theorem dL_isField_198 : decode cL_isField 198 = .ok (.istore 7, 2) := by decide +kernel
theorem dL_isField_200 : decode cL_isField 200 = .ok (.iinc 8 1, 3) := by decide +kernel
theorem dL_isField_203 : decode cL_isField 203 = .ok (.goto (-46), 3) := by decide +kernel
theorem dL_isField_206 : decode cL_isField 206 = .ok (.iload 7, 2) := by decide +kernel
theorem dL_isField_208 : decode cL_isField 208 = .ok (.ireturn, 1) := by decide +kernel
theorem dL_swings_0 : decode cL_swings 0 = .ok (.aload_n 0, 1) := by decide +kernel
theorem dL_swings_1 : decode cL_swings 1 = .ok (.iconst 1, 1) := by decide +kernel
theorem dL_swings_2 : decode cL_swings 2 = .ok (.iaload, 1) := by decide +kernel
theorem dL_swings_3 : decode cL_swings 3 = .ok (.aload_n 0, 1) := by decide +kernel
theorem dL_swings_4 : decode cL_swings 4 = .ok (.aload_n 1, 1) := by decide +kernel
theorem dL_swings_5 : decode cL_swings 5 = .ok (.aload_n 2, 1) := by decide +kernel
theorem dL_swings_6 : decode cL_swings 6 = .ok (.invokestatic 79, 3) := by decide +kernel
theorem dL_swings_9 : decode cL_swings 9 = .ok (.istore_n 3, 1) := by decide +kernel
theorem dL_swings_10 : decode cL_swings 10 = .ok (.iconst 0, 1) := by decide +kernel
theorem dL_swings_11 : decode cL_swings 11 = .ok (.istore 4, 2) := by decide +kernel
theorem dL_swings_13 : decode cL_swings 13 = .ok (.iconst 0, 1) := by decide +kernel
theorem dL_swings_14 : decode cL_swings 14 = .ok (.istore 5, 2) := by decide +kernel
theorem dL_swings_16 : decode cL_swings 16 = .ok (.iload 5, 2) := by decide +kernel
theorem dL_swings_18 : decode cL_swings 18 = .ok (.aload_n 0, 1) := by decide +kernel
theorem dL_swings_19 : decode cL_swings 19 = .ok (.bipush 10, 2) := by decide +kernel
theorem dL_swings_21 : decode cL_swings 21 = .ok (.iaload, 1) := by decide +kernel
theorem dL_swings_22 : decode cL_swings 22 = .ok (.if_icmp .ge 80, 3) := by decide +kernel
theorem dL_swings_25 : decode cL_swings 25 = .ok (.aload_n 1, 1) := by decide +kernel
theorem dL_swings_26 : decode cL_swings 26 = .ok (.iconst 5, 1) := by decide +kernel
theorem dL_swings_27 : decode cL_swings 27 = .ok (.iload 5, 2) := by decide +kernel
theorem dL_swings_29 : decode cL_swings 29 = .ok (.imul, 1) := by decide +kernel
theorem dL_swings_30 : decode cL_swings 30 = .ok (.iconst 3, 1) := by decide +kernel
theorem dL_swings_31 : decode cL_swings 31 = .ok (.iadd, 1) := by decide +kernel
theorem dL_swings_32 : decode cL_swings 32 = .ok (.iaload, 1) := by decide +kernel
theorem dL_swings_33 : decode cL_swings 33 = .ok (.istore 6, 2) := by decide +kernel
theorem dL_swings_35 : decode cL_swings 35 = .ok (.iconst 0, 1) := by decide +kernel
theorem dL_swings_36 : decode cL_swings 36 = .ok (.istore 7, 2) := by decide +kernel
theorem dL_swings_38 : decode cL_swings 38 = .ok (.iload 7, 2) := by decide +kernel
theorem dL_swings_40 : decode cL_swings 40 = .ok (.iconst 4, 1) := by decide +kernel
theorem dL_swings_41 : decode cL_swings 41 = .ok (.if_icmp .ge 45, 3) := by decide +kernel
theorem dL_swings_44 : decode cL_swings 44 = .ok (.aload_n 1, 1) := by decide +kernel
theorem dL_swings_45 : decode cL_swings 45 = .ok (.iconst 5, 1) := by decide +kernel
theorem dL_swings_46 : decode cL_swings 46 = .ok (.iload 5, 2) := by decide +kernel
theorem dL_swings_48 : decode cL_swings 48 = .ok (.imul, 1) := by decide +kernel
theorem dL_swings_49 : decode cL_swings 49 = .ok (.iconst 3, 1) := by decide +kernel
theorem dL_swings_50 : decode cL_swings 50 = .ok (.iadd, 1) := by decide +kernel
theorem dL_swings_51 : decode cL_swings 51 = .ok (.iload 7, 2) := by decide +kernel
theorem dL_swings_53 : decode cL_swings 53 = .ok (.iastore, 1) := by decide +kernel
theorem dL_swings_54 : decode cL_swings 54 = .ok (.iload 4, 2) := by decide +kernel
theorem dL_swings_56 : decode cL_swings 56 = .ok (.aload_n 0, 1) := by decide +kernel
theorem dL_swings_57 : decode cL_swings 57 = .ok (.iconst 1, 1) := by decide +kernel
theorem dL_swings_58 : decode cL_swings 58 = .ok (.iaload, 1) := by decide +kernel
theorem dL_swings_59 : decode cL_swings 59 = .ok (.aload_n 0, 1) := by decide +kernel
theorem dL_swings_60 : decode cL_swings 60 = .ok (.aload_n 1, 1) := by decide +kernel
theorem dL_swings_61 : decode cL_swings 61 = .ok (.aload_n 2, 1) := by decide +kernel
theorem dL_swings_62 : decode cL_swings 62 = .ok (.invokestatic 79, 3) := by decide +kernel
theorem dL_swings_65 : decode cL_swings 65 = .ok (.iload_n 3, 1) := by decide +kernel
theorem dL_swings_66 : decode cL_swings 66 = .ok (.if_icmp .eq 10, 3) := by decide +kernel
theorem dL_swings_69 : decode cL_swings 69 = .ok (.iconst 1, 1) := by decide +kernel
theorem dL_swings_70 : decode cL_swings 70 = .ok (.iload 5, 2) := by decide +kernel
theorem dL_swings_72 : decode cL_swings 72 = .ok (.ishl, 1) := by decide +kernel
theorem dL_swings_73 : decode cL_swings 73 = .ok (.goto 4, 3) := by decide +kernel
theorem dL_swings_76 : decode cL_swings 76 = .ok (.iconst 0, 1) := by decide +kernel
theorem dL_swings_77 : decode cL_swings 77 = .ok (.ior, 1) := by decide +kernel
theorem dL_swings_78 : decode cL_swings 78 = .ok (.istore 4, 2) := by decide +kernel
theorem dL_swings_80 : decode cL_swings 80 = .ok (.iinc 7 1, 3) := by decide +kernel
theorem dL_swings_83 : decode cL_swings 83 = .ok (.goto (-45), 3) := by decide +kernel
theorem dL_swings_86 : decode cL_swings 86 = .ok (.aload_n 1, 1) := by decide +kernel
theorem dL_swings_87 : decode cL_swings 87 = .ok (.iconst 5, 1) := by decide +kernel
theorem dL_swings_88 : decode cL_swings 88 = .ok (.iload 5, 2) := by decide +kernel
theorem dL_swings_90 : decode cL_swings 90 = .ok (.imul, 1) := by decide +kernel
theorem dL_swings_91 : decode cL_swings 91 = .ok (.iconst 3, 1) := by decide +kernel
theorem dL_swings_92 : decode cL_swings 92 = .ok (.iadd, 1) := by decide +kernel
theorem dL_swings_93 : decode cL_swings 93 = .ok (.iload 6, 2) := by decide +kernel
theorem dL_swings_95 : decode cL_swings 95 = .ok (.iastore, 1) := by decide +kernel
theorem dL_swings_96 : decode cL_swings 96 = .ok (.iinc 5 1, 3) := by decide +kernel
theorem dL_swings_99 : decode cL_swings 99 = .ok (.goto (-83), 3) := by decide +kernel
theorem dL_swings_102 : decode cL_swings 102 = .ok (.iload 4, 2) := by decide +kernel
theorem dL_swings_104 : decode cL_swings 104 = .ok (.ireturn, 1) := by decide +kernel
theorem dL_isSo_0 : decode cL_isSo 0 = .ok (.iconst 0, 1) := by decide +kernel
theorem dL_isSo_1 : decode cL_isSo 1 = .ok (.istore 6, 2) := by decide +kernel
theorem dL_isSo_3 : decode cL_isSo 3 = .ok (.iconst 0, 1) := by decide +kernel
theorem dL_isSo_4 : decode cL_isSo 4 = .ok (.istore 7, 2) := by decide +kernel
theorem dL_isSo_6 : decode cL_isSo 6 = .ok (.iconst 0, 1) := by decide +kernel
theorem dL_isSo_7 : decode cL_isSo 7 = .ok (.istore 8, 2) := by decide +kernel
theorem dL_isSo_9 : decode cL_isSo 9 = .ok (.iload 8, 2) := by decide +kernel
theorem dL_isSo_11 : decode cL_isSo 11 = .ok (.aload_n 2, 1) := by decide +kernel
theorem dL_isSo_12 : decode cL_isSo 12 = .ok (.bipush 10, 2) := by decide +kernel
theorem dL_isSo_14 : decode cL_isSo 14 = .ok (.iaload, 1) := by decide +kernel
theorem dL_isSo_15 : decode cL_isSo 15 = .ok (.if_icmp .ge 34, 3) := by decide +kernel
theorem dL_isSo_18 : decode cL_isSo 18 = .ok (.iload 6, 2) := by decide +kernel
theorem dL_isSo_20 : decode cL_isSo 20 = .ok (.iload 8, 2) := by decide +kernel
theorem dL_isSo_22 : decode cL_isSo 22 = .ok (.aload 4, 2) := by decide +kernel
theorem dL_isSo_24 : decode cL_isSo 24 = .ok (.invokestatic 34, 3) := by decide +kernel
theorem dL_isSo_27 : decode cL_isSo 27 = .ok (.iadd, 1) := by decide +kernel
theorem dL_isSo_28 : decode cL_isSo 28 = .ok (.istore 6, 2) := by decide +kernel
theorem dL_isSo_30 : decode cL_isSo 30 = .ok (.iload 7, 2) := by decide +kernel
theorem dL_isSo_32 : decode cL_isSo 32 = .ok (.aload_n 3, 1) := by decide +kernel
theorem dL_isSo_33 : decode cL_isSo 33 = .ok (.iconst 5, 1) := by decide +kernel
theorem dL_isSo_34 : decode cL_isSo 34 = .ok (.iload 8, 2) := by decide +kernel
theorem dL_isSo_36 : decode cL_isSo 36 = .ok (.imul, 1) := by decide +kernel
theorem dL_isSo_37 : decode cL_isSo 37 = .ok (.iconst 4, 1) := by decide +kernel
theorem dL_isSo_38 : decode cL_isSo 38 = .ok (.iadd, 1) := by decide +kernel
theorem dL_isSo_39 : decode cL_isSo 39 = .ok (.iaload, 1) := by decide +kernel
theorem dL_isSo_40 : decode cL_isSo 40 = .ok (.iadd, 1) := by decide +kernel
theorem dL_isSo_41 : decode cL_isSo 41 = .ok (.istore 7, 2) := by decide +kernel
theorem dL_isSo_43 : decode cL_isSo 43 = .ok (.iinc 8 1, 3) := by decide +kernel
theorem dL_isSo_46 : decode cL_isSo 46 = .ok (.goto (-37), 3) := by decide +kernel
theorem dL_isSo_49 : decode cL_isSo 49 = .ok (.aload_n 2, 1) := by decide +kernel
theorem dL_isSo_50 : decode cL_isSo 50 = .ok (.iconst 1, 1) := by decide +kernel
theorem dL_isSo_51 : decode cL_isSo 51 = .ok (.iaload, 1) := by decide +kernel
theorem dL_isSo_52 : decode cL_isSo 52 = .ok (.aload_n 2, 1) := by decide +kernel
theorem dL_isSo_53 : decode cL_isSo 53 = .ok (.aload_n 3, 1) := by decide +kernel
theorem dL_isSo_54 : decode cL_isSo 54 = .ok (.aload 4, 2) := by decide +kernel
theorem dL_isSo_56 : decode cL_isSo 56 = .ok (.invokestatic 79, 3) := by decide +kernel
theorem dL_isSo_59 : decode cL_isSo 59 = .ok (.istore 8, 2) := by decide +kernel
theorem dL_isSo_61 : decode cL_isSo 61 = .ok (.aload_n 0, 1) := by decide +kernel
theorem dL_isSo_62 : decode cL_isSo 62 = .ok (.iconst 0, 1) := by decide +kernel
theorem dL_isSo_63 : decode cL_isSo 63 = .ok (.invokevirtual 106, 3) := by decide +kernel
theorem dL_isSo_66 : decode cL_isSo 66 = .ok (.aload_n 2, 1) := by decide +kernel
theorem dL_isSo_67 : decode cL_isSo 67 = .ok (.iconst 2, 1) := by decide +kernel
theorem dL_isSo_68 : decode cL_isSo 68 = .ok (.iaload, 1) := by decide +kernel
theorem dL_isSo_69 : decode cL_isSo 69 = .ok (.if_icmp .ne 162, 3) := by decide +kernel
theorem dL_isSo_72 : decode cL_isSo 72 = .ok (.aload_n 0, 1) := by decide +kernel
theorem dL_isSo_73 : decode cL_isSo 73 = .ok (.iconst 1, 1) := by decide +kernel
theorem dL_isSo_74 : decode cL_isSo 74 = .ok (.invokevirtual 106, 3) := by decide +kernel
theorem dL_isSo_77 : decode cL_isSo 77 = .ok (.aload_n 2, 1) := by decide +kernel
theorem dL_isSo_78 : decode cL_isSo 78 = .ok (.bipush 10, 2) := by decide +kernel
theorem dL_isSo_80 : decode cL_isSo 80 = .ok (.iaload, 1) := by decide +kernel
theorem dL_isSo_81 : decode cL_isSo 81 = .ok (.if_icmp .ne 150, 3) := by decide +kernel
theorem dL_isSo_84 : decode cL_isSo 84 = .ok (.aload_n 0, 1) := by decide +kernel
theorem dL_isSo_85 : decode cL_isSo 85 = .ok (.iconst 2, 1) := by decide +kernel
theorem dL_isSo_86 : decode cL_isSo 86 = .ok (.invokevirtual 106, 3) := by decide +kernel
theorem dL_isSo_89 : decode cL_isSo 89 = .ok (.iload 6, 2) := by decide +kernel
theorem dL_isSo_91 : decode cL_isSo 91 = .ok (.if_icmp .ne 140, 3) := by decide +kernel
theorem dL_isSo_94 : decode cL_isSo 94 = .ok (.aload_n 0, 1) := by decide +kernel
theorem dL_isSo_95 : decode cL_isSo 95 = .ok (.iconst 3, 1) := by decide +kernel
theorem dL_isSo_96 : decode cL_isSo 96 = .ok (.invokevirtual 106, 3) := by decide +kernel
theorem dL_isSo_99 : decode cL_isSo 99 = .ok (.aload_n 2, 1) := by decide +kernel
theorem dL_isSo_100 : decode cL_isSo 100 = .ok (.iconst 3, 1) := by decide +kernel
theorem dL_isSo_101 : decode cL_isSo 101 = .ok (.iaload, 1) := by decide +kernel
theorem dL_isSo_102 : decode cL_isSo 102 = .ok (.if_icmp .ne 129, 3) := by decide +kernel
theorem dL_isSo_105 : decode cL_isSo 105 = .ok (.aload_n 0, 1) := by decide +kernel
theorem dL_isSo_106 : decode cL_isSo 106 = .ok (.iconst 4, 1) := by decide +kernel
theorem dL_isSo_107 : decode cL_isSo 107 = .ok (.invokevirtual 106, 3) := by decide +kernel
theorem dL_isSo_110 : decode cL_isSo 110 = .ok (.aload_n 2, 1) := by decide +kernel
theorem dL_isSo_111 : decode cL_isSo 111 = .ok (.iconst 4, 1) := by decide +kernel
theorem dL_isSo_112 : decode cL_isSo 112 = .ok (.iaload, 1) := by decide +kernel
theorem dL_isSo_113 : decode cL_isSo 113 = .ok (.if_icmp .ne 118, 3) := by decide +kernel
theorem dL_isSo_116 : decode cL_isSo 116 = .ok (.aload_n 0, 1) := by decide +kernel
theorem dL_isSo_117 : decode cL_isSo 117 = .ok (.iconst 5, 1) := by decide +kernel
theorem dL_isSo_118 : decode cL_isSo 118 = .ok (.invokevirtual 106, 3) := by decide +kernel
theorem dL_isSo_121 : decode cL_isSo 121 = .ok (.aload_n 2, 1) := by decide +kernel
theorem dL_isSo_122 : decode cL_isSo 122 = .ok (.iconst 5, 1) := by decide +kernel
theorem dL_isSo_123 : decode cL_isSo 123 = .ok (.iaload, 1) := by decide +kernel
theorem dL_isSo_124 : decode cL_isSo 124 = .ok (.if_icmp .ne 107, 3) := by decide +kernel
theorem dL_isSo_127 : decode cL_isSo 127 = .ok (.aload_n 0, 1) := by decide +kernel
theorem dL_isSo_128 : decode cL_isSo 128 = .ok (.bipush 6, 2) := by decide +kernel
theorem dL_isSo_130 : decode cL_isSo 130 = .ok (.invokevirtual 106, 3) := by decide +kernel
theorem dL_isSo_133 : decode cL_isSo 133 = .ok (.iload 7, 2) := by decide +kernel
theorem dL_isSo_135 : decode cL_isSo 135 = .ok (.if_icmp .ne 96, 3) := by decide +kernel
theorem dL_isSo_138 : decode cL_isSo 138 = .ok (.aload_n 0, 1) := by decide +kernel
theorem dL_isSo_139 : decode cL_isSo 139 = .ok (.bipush 7, 2) := by decide +kernel
theorem dL_isSo_141 : decode cL_isSo 141 = .ok (.invokevirtual 106, 3) := by decide +kernel
theorem dL_isSo_144 : decode cL_isSo 144 = .ok (.aload_n 2, 1) := by decide +kernel
theorem dL_isSo_145 : decode cL_isSo 145 = .ok (.bipush 6, 2) := by decide +kernel
theorem dL_isSo_147 : decode cL_isSo 147 = .ok (.iaload, 1) := by decide +kernel
theorem dL_isSo_148 : decode cL_isSo 148 = .ok (.if_icmp .ne 83, 3) := by decide +kernel
theorem dL_isSo_151 : decode cL_isSo 151 = .ok (.aload_n 0, 1) := by decide +kernel
theorem dL_isSo_152 : decode cL_isSo 152 = .ok (.bipush 8, 2) := by decide +kernel
theorem dL_isSo_154 : decode cL_isSo 154 = .ok (.invokevirtual 106, 3) := by decide +kernel
theorem dL_isSo_157 : decode cL_isSo 157 = .ok (.aload_n 2, 1) := by decide +kernel
theorem dL_isSo_158 : decode cL_isSo 158 = .ok (.bipush 7, 2) := by decide +kernel
theorem dL_isSo_160 : decode cL_isSo 160 = .ok (.iaload, 1) := by decide +kernel
theorem dL_isSo_161 : decode cL_isSo 161 = .ok (.if_icmp .ne 70, 3) := by decide +kernel
theorem dL_isSo_164 : decode cL_isSo 164 = .ok (.aload_n 0, 1) := by decide +kernel
theorem dL_isSo_165 : decode cL_isSo 165 = .ok (.bipush 9, 2) := by decide +kernel
theorem dL_isSo_167 : decode cL_isSo 167 = .ok (.invokevirtual 106, 3) := by decide +kernel
theorem dL_isSo_170 : decode cL_isSo 170 = .ok (.aload_n 2, 1) := by decide +kernel
theorem dL_isSo_171 : decode cL_isSo 171 = .ok (.bipush 8, 2) := by decide +kernel
theorem dL_isSo_173 : decode cL_isSo 173 = .ok (.iaload, 1) := by decide +kernel
theorem dL_isSo_174 : decode cL_isSo 174 = .ok (.if_icmp .ne 57, 3) := by decide +kernel
theorem dL_isSo_177 : decode cL_isSo 177 = .ok (.aload_n 0, 1) := by decide +kernel
theorem dL_isSo_178 : decode cL_isSo 178 = .ok (.bipush 10, 2) := by decide +kernel
theorem dL_isSo_180 : decode cL_isSo 180 = .ok (.invokevirtual 106, 3) := by decide +kernel
theorem dL_isSo_183 : decode cL_isSo 183 = .ok (.aload_n 2, 1) := by decide +kernel
theorem dL_isSo_184 : decode cL_isSo 184 = .ok (.bipush 9, 2) := by decide +kernel
theorem dL_isSo_186 : decode cL_isSo 186 = .ok (.iaload, 1) := by decide +kernel
theorem dL_isSo_187 : decode cL_isSo 187 = .ok (.if_icmp .ne 44, 3) := by decide +kernel
theorem dL_isSo_190 : decode cL_isSo 190 = .ok (.aload_n 0, 1) := by decide +kernel
theorem dL_isSo_191 : decode cL_isSo 191 = .ok (.bipush 11, 2) := by decide +kernel
theorem dL_isSo_193 : decode cL_isSo 193 = .ok (.invokevirtual 106, 3) := by decide +kernel
theorem dL_isSo_196 : decode cL_isSo 196 = .ok (.aload_n 2, 1) := by decide +kernel
theorem dL_isSo_197 : decode cL_isSo 197 = .ok (.invokestatic 30, 3) := by decide +kernel
theorem dL_isSo_200 : decode cL_isSo 200 = .ok (.if_icmp .ne 31, 3) := by decide +kernel
theorem dL_isSo_203 : decode cL_isSo 203 = .ok (.aload_n 0, 1) := by decide +kernel
theorem dL_isSo_204 : decode cL_isSo 204 = .ok (.bipush 12, 2) := by decide +kernel
theorem dL_isSo_206 : decode cL_isSo 206 = .ok (.invokevirtual 106, 3) := by decide +kernel
theorem dL_isSo_209 : decode cL_isSo 209 = .ok (.aload_n 2, 1) := by decide +kernel
theorem dL_isSo_210 : decode cL_isSo 210 = .ok (.iconst 0, 1) := by decide +kernel
theorem dL_isSo_211 : decode cL_isSo 211 = .ok (.iaload, 1) := by decide +kernel
theorem dL_isSo_212 : decode cL_isSo 212 = .ok (.if_icmp .ne 19, 3) := by decide +kernel
theorem dL_isSo_215 : decode cL_isSo 215 = .ok (.aload_n 0, 1) := by decide +kernel
theorem dL_isSo_216 : decode cL_isSo 216 = .ok (.bipush 13, 2) := by decide +kernel
theorem dL_isSo_218 : decode cL_isSo 218 = .ok (.invokevirtual 106, 3) := by decide +kernel
theorem dL_isSo_221 : decode cL_isSo 221 = .ok (.aload_n 2, 1) := by decide +kernel
theorem dL_isSo_222 : decode cL_isSo 222 = .ok (.iconst 1, 1) := by decide +kernel
theorem dL_isSo_223 : decode cL_isSo 223 = .ok (.iaload, 1) := by decide +kernel
theorem dL_isSo_224 : decode cL_isSo 224 = .ok (.if_icmp .ne 7, 3) := by decide +kernel
theorem dL_isSo_227 : decode cL_isSo 227 = .ok (.iconst 1, 1) := by decide +kernel
theorem dL_isSo_228 : decode cL_isSo 228 = .ok (.goto 4, 3) := by decide +kernel
theorem dL_isSo_231 : decode cL_isSo 231 = .ok (.iconst 0, 1) := by decide +kernel
theorem dL_isSo_232 : decode cL_isSo 232 = .ok (.istore 9, 2) := by decide +kernel
theorem dL_isSo_234 : decode cL_isSo 234 = .ok (.iload 9, 2) := by decide +kernel
theorem dL_isSo_236 : decode cL_isSo 236 = .ok (.ifCond .eq 64, 3) := by decide +kernel
theorem dL_isSo_239 : decode cL_isSo 239 = .ok (.aload_n 0, 1) := by decide +kernel
theorem dL_isSo_240 : decode cL_isSo 240 = .ok (.iconst 0, 1) := by decide +kernel
theorem dL_isSo_241 : decode cL_isSo 241 = .ok (.invokevirtual 109, 3) := by decide +kernel
theorem dL_isSo_244 : decode cL_isSo 244 = .ok (.iload 8, 2) := by decide +kernel
theorem dL_isSo_246 : decode cL_isSo 246 = .ok (.if_icmp .ne 54, 3) := by decide +kernel
theorem dL_isSo_249 : decode cL_isSo 249 = .ok (.aload_n 0, 1) := by decide +kernel
theorem dL_isSo_250 : decode cL_isSo 250 = .ok (.iconst 1, 1) := by decide +kernel
theorem dL_isSo_251 : decode cL_isSo 251 = .ok (.invokevirtual 109, 3) := by decide +kernel
theorem dL_isSo_254 : decode cL_isSo 254 = .ok (.iload 8, 2) := by decide +kernel
theorem dL_isSo_256 : decode cL_isSo 256 = .ok (.if_icmp .ne 44, 3) := by decide +kernel
theorem dL_isSo_259 : decode cL_isSo 259 = .ok (.aload_n 0, 1) := by decide +kernel
theorem dL_isSo_260 : decode cL_isSo 260 = .ok (.invokevirtual 112, 3) := by decide +kernel
theorem dL_isSo_263 : decode cL_isSo 263 = .ok (.iconst 0, 1) := by decide +kernel
theorem dL_isSo_264 : decode cL_isSo 264 = .ok (.aload_n 2, 1) := by decide +kernel
theorem dL_isSo_265 : decode cL_isSo 265 = .ok (.aload_n 3, 1) := by decide +kernel
theorem dL_isSo_266 : decode cL_isSo 266 = .ok (.aload 4, 2) := by decide +kernel
theorem dL_isSo_268 : decode cL_isSo 268 = .ok (.invokestatic 79, 3) := by decide +kernel
theorem dL_isSo_271 : decode cL_isSo 271 = .ok (.if_icmp .ne 29, 3) := by decide +kernel
theorem dL_isSo_274 : decode cL_isSo 274 = .ok (.iload_n 1, 1) := by decide +kernel
theorem dL_isSo_275 : decode cL_isSo 275 = .ok (.iconst 5, 1) := by decide +kernel
theorem dL_isSo_276 : decode cL_isSo 276 = .ok (.invokestatic 115, 3) := by decide +kernel
theorem dL_isSo_279 : decode cL_isSo 279 = .ok (.ifCond .gt 17, 3) := by decide +kernel
theorem dL_isSo_282 : decode cL_isSo 282 = .ok (.aload_n 0, 1) := by decide +kernel
theorem dL_isSo_283 : decode cL_isSo 283 = .ok (.invokevirtual 118, 3) := by decide +kernel
theorem dL_isSo_286 : decode cL_isSo 286 = .ok (.aload_n 2, 1) := by decide +kernel
theorem dL_isSo_287 : decode cL_isSo 287 = .ok (.aload_n 3, 1) := by decide +kernel
theorem dL_isSo_288 : decode cL_isSo 288 = .ok (.aload 4, 2) := by decide +kernel
theorem dL_isSo_290 : decode cL_isSo 290 = .ok (.invokestatic 121, 3) := by decide +kernel
theorem dL_isSo_293 : decode cL_isSo 293 = .ok (.if_icmp .ne 7, 3) := by decide +kernel
theorem dL_isSo_296 : decode cL_isSo 296 = .ok (.iconst 1, 1) := by decide +kernel
theorem dL_isSo_297 : decode cL_isSo 297 = .ok (.goto 4, 3) := by decide +kernel
theorem dL_isSo_300 : decode cL_isSo 300 = .ok (.iconst 0, 1) := by decide +kernel
theorem dL_isSo_301 : decode cL_isSo 301 = .ok (.istore 9, 2) := by decide +kernel
theorem dL_isSo_303 : decode cL_isSo 303 = .ok (.iload 9, 2) := by decide +kernel
theorem dL_isSo_305 : decode cL_isSo 305 = .ok (.ifCond .eq 71, 3) := by decide +kernel
theorem dL_isSo_308 : decode cL_isSo 308 = .ok (.aload_n 0, 1) := by decide +kernel
theorem dL_isSo_309 : decode cL_isSo 309 = .ok (.iload_n 1, 1) := by decide +kernel
theorem dL_isSo_310 : decode cL_isSo 310 = .ok (.iconst 3, 1) := by decide +kernel
theorem dL_isSo_311 : decode cL_isSo 311 = .ok (.ishr, 1) := by decide +kernel
theorem dL_isSo_312 : decode cL_isSo 312 = .ok (.bipush 6, 2) := by decide +kernel
theorem dL_isSo_314 : decode cL_isSo 314 = .ok (.invokestatic 115, 3) := by decide +kernel
theorem dL_isSo_317 : decode cL_isSo 317 = .ok (.aload_n 2, 1) := by decide +kernel
theorem dL_isSo_318 : decode cL_isSo 318 = .ok (.aload_n 3, 1) := by decide +kernel
theorem dL_isSo_319 : decode cL_isSo 319 = .ok (.aload 4, 2) := by decide +kernel
theorem dL_isSo_321 : decode cL_isSo 321 = .ok (.invokestatic 124, 3) := by decide +kernel
theorem dL_isSo_324 : decode cL_isSo 324 = .ok (.ifCond .eq 52, 3) := by decide +kernel
theorem dL_isSo_327 : decode cL_isSo 327 = .ok (.aload_n 2, 1) := by decide +kernel
theorem dL_isSo_328 : decode cL_isSo 328 = .ok (.bipush 10, 2) := by decide +kernel
theorem dL_isSo_330 : decode cL_isSo 330 = .ok (.iaload, 1) := by decide +kernel
theorem dL_isSo_331 : decode cL_isSo 331 = .ok (.ifCond .eq 26, 3) := by decide +kernel
theorem dL_isSo_334 : decode cL_isSo 334 = .ok (.aload_n 0, 1) := by decide +kernel
theorem dL_isSo_335 : decode cL_isSo 335 = .ok (.iload_n 1, 1) := by decide +kernel
theorem dL_isSo_336 : decode cL_isSo 336 = .ok (.bipush 6, 2) := by decide +kernel
theorem dL_isSo_338 : decode cL_isSo 338 = .ok (.ishr, 1) := by decide +kernel
theorem dL_isSo_339 : decode cL_isSo 339 = .ok (.aload_n 2, 1) := by decide +kernel
theorem dL_isSo_340 : decode cL_isSo 340 = .ok (.bipush 10, 2) := by decide +kernel
theorem dL_isSo_342 : decode cL_isSo 342 = .ok (.iaload, 1) := by decide +kernel
theorem dL_isSo_343 : decode cL_isSo 343 = .ok (.invokestatic 115, 3) := by decide +kernel
theorem dL_isSo_346 : decode cL_isSo 346 = .ok (.aload_n 3, 1) := by decide +kernel
theorem dL_isSo_347 : decode cL_isSo 347 = .ok (.aload 4, 2) := by decide +kernel
theorem dL_isSo_349 : decode cL_isSo 349 = .ok (.aload 5, 2) := by decide +kernel
theorem dL_isSo_351 : decode cL_isSo 351 = .ok (.invokestatic 128, 3) := by decide +kernel
theorem dL_isSo_354 : decode cL_isSo 354 = .ok (.ifCond .eq 22, 3) := by decide +kernel
theorem dL_isSo_357 : decode cL_isSo 357 = .ok (.aload_n 0, 1) := by decide +kernel
theorem dL_isSo_358 : decode cL_isSo 358 = .ok (.aload_n 2, 1) := by decide +kernel
theorem dL_isSo_359 : decode cL_isSo 359 = .ok (.bipush 10, 2) := by decide +kernel
theorem dL_isSo_361 : decode cL_isSo 361 = .ok (.iaload, 1) := by decide +kernel
theorem dL_isSo_362 : decode cL_isSo 362 = .ok (.invokevirtual 87, 3) := by decide +kernel
theorem dL_isSo_365 : decode cL_isSo 365 = .ok (.ldc2_w 131, 3) := by decide +kernel
theorem dL_isSo_368 : decode cL_isSo 368 = .ok (.dcmp .l, 1) := by decide +kernel
theorem dL_isSo_369 : decode cL_isSo 369 = .ok (.ifCond .ne 7, 3) := by decide +kernel
theorem dL_isSo_372 : decode cL_isSo 372 = .ok (.iconst 1, 1) := by decide +kernel
theorem dL_isSo_373 : decode cL_isSo 373 = .ok (.goto 4, 3) := by decide +kernel
theorem dL_isSo_376 : decode cL_isSo 376 = .ok (.iconst 0, 1) := by decide +kernel
theorem dL_isSo_377 : decode cL_isSo 377 = .ok (.ireturn, 1) := by decide +kernel
theorem dL_told_0 : decode cL_told 0 = .ok (.ldc2_w 133, 3) := by decide +kernel
theorem dL_told_3 : decode cL_told 3 = .ok (.lstore_n 1, 1) := by decide +kernel
theorem dL_told_4 : decode cL_told 4 = .ok (.iconst 0, 1) := by decide +kernel
theorem dL_told_5 : decode cL_told 5 = .ok (.istore_n 3, 1) := by decide +kernel
theorem dL_told_6 : decode cL_told 6 = .ok (.iload_n 3, 1) := by decide +kernel
theorem dL_told_7 : decode cL_told 7 = .ok (.bipush 14, 2) := by decide +kernel
theorem dL_told_9 : decode cL_told 9 = .ok (.if_icmp .ge 22, 3) := by decide +kernel
theorem dL_told_12 : decode cL_told 12 = .ok (.ldc2_w 135, 3) := by decide +kernel
theorem dL_told_15 : decode cL_told 15 = .ok (.lload_n 1, 1) := by decide +kernel
theorem dL_told_16 : decode cL_told 16 = .ok (.lmul, 1) := by decide +kernel
theorem dL_told_17 : decode cL_told 17 = .ok (.aload_n 0, 1) := by decide +kernel
theorem dL_told_18 : decode cL_told 18 = .ok (.iload_n 3, 1) := by decide +kernel
theorem dL_told_19 : decode cL_told 19 = .ok (.invokevirtual 106, 3) := by decide +kernel
theorem dL_told_22 : decode cL_told 22 = .ok (.i2l, 1) := by decide +kernel
theorem dL_told_23 : decode cL_told 23 = .ok (.ladd, 1) := by decide +kernel
theorem dL_told_24 : decode cL_told 24 = .ok (.lstore_n 1, 1) := by decide +kernel
theorem dL_told_25 : decode cL_told 25 = .ok (.iinc 3 1, 3) := by decide +kernel
theorem dL_told_28 : decode cL_told 28 = .ok (.goto (-22), 3) := by decide +kernel
theorem dL_told_31 : decode cL_told 31 = .ok (.iconst 0, 1) := by decide +kernel
theorem dL_told_32 : decode cL_told 32 = .ok (.istore_n 3, 1) := by decide +kernel
theorem dL_told_33 : decode cL_told 33 = .ok (.iload_n 3, 1) := by decide +kernel
theorem dL_told_34 : decode cL_told 34 = .ok (.bipush 12, 2) := by decide +kernel
theorem dL_told_36 : decode cL_told 36 = .ok (.if_icmp .ge 67, 3) := by decide +kernel
theorem dL_told_39 : decode cL_told 39 = .ok (.iconst 0, 1) := by decide +kernel
theorem dL_told_40 : decode cL_told 40 = .ok (.istore 4, 2) := by decide +kernel
theorem dL_told_42 : decode cL_told 42 = .ok (.iload 4, 2) := by decide +kernel
theorem dL_told_44 : decode cL_told 44 = .ok (.bipush 11, 2) := by decide +kernel
theorem dL_told_46 : decode cL_told 46 = .ok (.if_icmp .ge 24, 3) := by decide +kernel
theorem dL_told_49 : decode cL_told 49 = .ok (.ldc2_w 135, 3) := by decide +kernel
theorem dL_told_52 : decode cL_told 52 = .ok (.lload_n 1, 1) := by decide +kernel
theorem dL_told_53 : decode cL_told 53 = .ok (.lmul, 1) := by decide +kernel
theorem dL_told_54 : decode cL_told 54 = .ok (.aload_n 0, 1) := by decide +kernel
theorem dL_told_55 : decode cL_told 55 = .ok (.iload_n 3, 1) := by decide +kernel
theorem dL_told_56 : decode cL_told 56 = .ok (.iload 4, 2) := by decide +kernel
theorem dL_told_58 : decode cL_told 58 = .ok (.invokevirtual 93, 3) := by decide +kernel
theorem dL_told_61 : decode cL_told 61 = .ok (.i2l, 1) := by decide +kernel
theorem dL_told_62 : decode cL_told 62 = .ok (.ladd, 1) := by decide +kernel
theorem dL_told_63 : decode cL_told 63 = .ok (.lstore_n 1, 1) := by decide +kernel
theorem dL_told_64 : decode cL_told 64 = .ok (.iinc 4 1, 3) := by decide +kernel
theorem dL_told_67 : decode cL_told 67 = .ok (.goto (-25), 3) := by decide +kernel
theorem dL_told_70 : decode cL_told 70 = .ok (.ldc2_w 135, 3) := by decide +kernel
theorem dL_told_73 : decode cL_told 73 = .ok (.lload_n 1, 1) := by decide +kernel
theorem dL_told_74 : decode cL_told 74 = .ok (.lmul, 1) := by decide +kernel
theorem dL_told_75 : decode cL_told 75 = .ok (.ldc2_w 91, 3) := by decide +kernel
theorem dL_told_78 : decode cL_told 78 = .ok (.aload_n 0, 1) := by decide +kernel
theorem dL_told_79 : decode cL_told 79 = .ok (.iload_n 3, 1) := by decide +kernel
theorem dL_told_80 : decode cL_told 80 = .ok (.invokevirtual 87, 3) := by decide +kernel
theorem dL_told_83 : decode cL_told 83 = .ok (.dmul, 1) := by decide +kernel
theorem dL_told_84 : decode cL_told 84 = .ok (.d2l, 1) := by decide +kernel
theorem dL_told_85 : decode cL_told 85 = .ok (.ladd, 1) := by decide +kernel
theorem dL_told_86 : decode cL_told 86 = .ok (.aload_n 0, 1) := by decide +kernel
theorem dL_told_87 : decode cL_told 87 = .ok (.iload_n 3, 1) := by decide +kernel
theorem dL_told_88 : decode cL_told 88 = .ok (.iconst 2, 1) := by decide +kernel
theorem dL_told_89 : decode cL_told 89 = .ok (.idiv, 1) := by decide +kernel
theorem dL_told_90 : decode cL_told 90 = .ok (.iconst 0, 1) := by decide +kernel
theorem dL_told_91 : decode cL_told 91 = .ok (.invokevirtual 96, 3) := by decide +kernel
theorem dL_told_94 : decode cL_told 94 = .ok (.i2l, 1) := by decide +kernel
theorem dL_told_95 : decode cL_told 95 = .ok (.ladd, 1) := by decide +kernel
theorem dL_told_96 : decode cL_told 96 = .ok (.lstore_n 1, 1) := by decide +kernel
theorem dL_told_97 : decode cL_told 97 = .ok (.iinc 3 1, 3) := by decide +kernel
theorem dL_told_100 : decode cL_told 100 = .ok (.goto (-67), 3) := by decide +kernel
theorem dL_told_103 : decode cL_told 103 = .ok (.lload_n 1, 1) := by decide +kernel
theorem dL_told_104 : decode cL_told 104 = .ok (.lreturn, 1) := by decide +kernel
theorem dL_law_0 : decode cL_law 0 = .ok (.new 39, 3) := by decide +kernel
theorem dL_law_3 : decode cL_law 3 = .ok (.dup, 1) := by decide +kernel
theorem dL_law_4 : decode cL_law 4 = .ok (.invokespecial 137, 3) := by decide +kernel
theorem dL_law_7 : decode cL_law 7 = .ok (.astore_n 1, 1) := by decide +kernel
theorem dL_law_8 : decode cL_law 8 = .ok (.bipush 17, 2) := by decide +kernel
theorem dL_law_10 : decode cL_law 10 = .ok (.newarray .int, 2) := by decide +kernel
theorem dL_law_12 : decode cL_law 12 = .ok (.astore_n 2, 1) := by decide +kernel
theorem dL_law_13 : decode cL_law 13 = .ok (.bipush 60, 2) := by decide +kernel
theorem dL_law_15 : decode cL_law 15 = .ok (.newarray .int, 2) := by decide +kernel
theorem dL_law_17 : decode cL_law 17 = .ok (.astore_n 3, 1) := by decide +kernel
theorem dL_law_18 : decode cL_law 18 = .ok (.bipush 48, 2) := by decide +kernel
theorem dL_law_20 : decode cL_law 20 = .ok (.newarray .int, 2) := by decide +kernel
theorem dL_law_22 : decode cL_law 22 = .ok (.astore 4, 2) := by decide +kernel
theorem dL_law_24 : decode cL_law 24 = .ok (.bipush 24, 2) := by decide +kernel
theorem dL_law_26 : decode cL_law 26 = .ok (.newarray .int, 2) := by decide +kernel
theorem dL_law_28 : decode cL_law 28 = .ok (.astore 5, 2) := by decide +kernel
theorem dL_law_30 : decode cL_law 30 = .ok (.aload_n 2, 1) := by decide +kernel
theorem dL_law_31 : decode cL_law 31 = .ok (.iconst 1, 1) := by decide +kernel
theorem dL_law_32 : decode cL_law 32 = .ok (.iconst 2, 1) := by decide +kernel
theorem dL_law_33 : decode cL_law 33 = .ok (.iastore, 1) := by decide +kernel
theorem dL_law_34 : decode cL_law 34 = .ok (.aload_n 2, 1) := by decide +kernel
theorem dL_law_35 : decode cL_law 35 = .ok (.iconst 5, 1) := by decide +kernel
theorem dL_law_36 : decode cL_law 36 = .ok (.sipush 640, 3) := by decide +kernel
theorem dL_law_39 : decode cL_law 39 = .ok (.iastore, 1) := by decide +kernel
theorem dL_law_40 : decode cL_law 40 = .ok (.aload_n 2, 1) := by decide +kernel
theorem dL_law_41 : decode cL_law 41 = .ok (.bipush 9, 2) := by decide +kernel
theorem dL_law_43 : decode cL_law 43 = .ok (.bipush (-5), 2) := by decide +kernel
theorem dL_law_45 : decode cL_law 45 = .ok (.iastore, 1) := by decide +kernel
theorem dL_law_46 : decode cL_law 46 = .ok (.iconst 0, 1) := by decide +kernel
theorem dL_law_47 : decode cL_law 47 = .ok (.istore 6, 2) := by decide +kernel
theorem dL_law_49 : decode cL_law 49 = .ok (.iload 6, 2) := by decide +kernel
theorem dL_law_51 : decode cL_law 51 = .ok (.bipush 6, 2) := by decide +kernel
theorem dL_law_53 : decode cL_law 53 = .ok (.if_icmp .ge 17, 3) := by decide +kernel
theorem dL_law_56 : decode cL_law 56 = .ok (.aload_n 2, 1) := by decide +kernel
theorem dL_law_57 : decode cL_law 57 = .ok (.bipush 11, 2) := by decide +kernel
theorem dL_law_59 : decode cL_law 59 = .ok (.iload 6, 2) := by decide +kernel
theorem dL_law_61 : decode cL_law 61 = .ok (.iadd, 1) := by decide +kernel
theorem dL_law_62 : decode cL_law 62 = .ok (.iconst 1, 1) := by decide +kernel
theorem dL_law_63 : decode cL_law 63 = .ok (.iastore, 1) := by decide +kernel
theorem dL_law_64 : decode cL_law 64 = .ok (.iinc 6 1, 3) := by decide +kernel
theorem dL_law_67 : decode cL_law 67 = .ok (.goto (-18), 3) := by decide +kernel
theorem dL_law_70 : decode cL_law 70 = .ok (.iconst 0, 1) := by decide +kernel
theorem dL_law_71 : decode cL_law 71 = .ok (.istore 6, 2) := by decide +kernel
theorem dL_law_73 : decode cL_law 73 = .ok (.iload 6, 2) := by decide +kernel
theorem dL_law_75 : decode cL_law 75 = .ok (.bipush 50, 2) := by decide +kernel
theorem dL_law_77 : decode cL_law 77 = .ok (.if_icmp .ge 549, 3) := by decide +kernel
theorem dL_law_80 : decode cL_law 80 = .ok (.aload_n 0, 1) := by decide +kernel
theorem dL_law_81 : decode cL_law 81 = .ok (.iconst 2, 1) := by decide +kernel
theorem dL_law_82 : decode cL_law 82 = .ok (.iload 6, 2) := by decide +kernel
theorem dL_law_84 : decode cL_law 84 = .ok (.imul, 1) := by decide +kernel
theorem dL_law_85 : decode cL_law 85 = .ok (.invokestatic 138, 3) := by decide +kernel
theorem dL_law_88 : decode cL_law 88 = .ok (.istore 7, 2) := by decide +kernel
theorem dL_law_90 : decode cL_law 90 = .ok (.aload_n 0, 1) := by decide +kernel
theorem dL_law_91 : decode cL_law 91 = .ok (.iconst 2, 1) := by decide +kernel
theorem dL_law_92 : decode cL_law 92 = .ok (.iload 6, 2) := by decide +kernel
theorem dL_law_94 : decode cL_law 94 = .ok (.imul, 1) := by decide +kernel
theorem dL_law_95 : decode cL_law 95 = .ok (.iconst 1, 1) := by decide +kernel
theorem dL_law_96 : decode cL_law 96 = .ok (.iadd, 1) := by decide +kernel
theorem dL_law_97 : decode cL_law 97 = .ok (.invokestatic 138, 3) := by decide +kernel
theorem dL_law_100 : decode cL_law 100 = .ok (.istore 8, 2) := by decide +kernel
theorem dL_law_102 : decode cL_law 102 = .ok (.iload 7, 2) := by decide +kernel
theorem dL_law_104 : decode cL_law 104 = .ok (.bipush 30, 2) := by decide +kernel
theorem dL_law_106 : decode cL_law 106 = .ok (.invokestatic 115, 3) := by decide +kernel
theorem dL_law_109 : decode cL_law 109 = .ok (.istore 9, 2) := by decide +kernel
theorem dL_law_111 : decode cL_law 111 = .ok (.iload 6, 2) := by decide +kernel
theorem dL_law_113 : decode cL_law 113 = .ok (.iconst 4, 1) := by decide +kernel
theorem dL_law_114 : decode cL_law 114 = .ok (.if_icmp .lt 9, 3) := by decide +kernel
theorem dL_law_117 : decode cL_law 117 = .ok (.iload 9, 2) := by decide +kernel
theorem dL_law_119 : decode cL_law 119 = .ok (.iconst 4, 1) := by decide +kernel
theorem dL_law_120 : decode cL_law 120 = .ok (.if_icmp .ge 7, 3) := by decide +kernel
theorem dL_law_123 : decode cL_law 123 = .ok (.iconst 0, 1) := by decide +kernel
theorem dL_law_124 : decode cL_law 124 = .ok (.goto 108, 3) := by decide +kernel
theorem dL_law_127 : decode cL_law 127 = .ok (.iload 9, 2) := by decide +kernel
theorem dL_law_129 : decode cL_law 129 = .ok (.bipush 6, 2) := by decide +kernel
theorem dL_law_131 : decode cL_law 131 = .ok (.if_icmp .ge 7, 3) := by decide +kernel
theorem dL_law_134 : decode cL_law 134 = .ok (.iconst 1, 1) := by decide +kernel
theorem dL_law_135 : decode cL_law 135 = .ok (.goto 97, 3) := by decide +kernel
theorem dL_law_138 : decode cL_law 138 = .ok (.iload 9, 2) := by decide +kernel
theorem dL_law_140 : decode cL_law 140 = .ok (.bipush 8, 2) := by decide +kernel
theorem dL_law_142 : decode cL_law 142 = .ok (.if_icmp .ge 7, 3) := by decide +kernel
theorem dL_law_145 : decode cL_law 145 = .ok (.iconst 2, 1) := by decide +kernel
theorem dL_law_146 : decode cL_law 146 = .ok (.goto 86, 3) := by decide +kernel
theorem dL_law_149 : decode cL_law 149 = .ok (.iload 9, 2) := by decide +kernel
theorem dL_law_151 : decode cL_law 151 = .ok (.bipush 16, 2) := by decide +kernel
theorem dL_law_153 : decode cL_law 153 = .ok (.if_icmp .ge 7, 3) := by decide +kernel
theorem dL_law_156 : decode cL_law 156 = .ok (.iconst 3, 1) := by decide +kernel
theorem dL_law_157 : decode cL_law 157 = .ok (.goto 75, 3) := by decide +kernel
theorem dL_law_160 : decode cL_law 160 = .ok (.iload 9, 2) := by decide +kernel
theorem dL_law_162 : decode cL_law 162 = .ok (.bipush 16, 2) := by decide +kernel
theorem dL_law_164 : decode cL_law 164 = .ok (.if_icmp .ne 7, 3) := by decide +kernel
theorem dL_law_167 : decode cL_law 167 = .ok (.iconst 4, 1) := by decide +kernel
theorem dL_law_168 : decode cL_law 168 = .ok (.goto 64, 3) := by decide +kernel
theorem dL_law_171 : decode cL_law 171 = .ok (.iload 9, 2) := by decide +kernel
theorem dL_law_173 : decode cL_law 173 = .ok (.bipush 19, 2) := by decide +kernel
theorem dL_law_175 : decode cL_law 175 = .ok (.if_icmp .ge 7, 3) := by decide +kernel
theorem dL_law_178 : decode cL_law 178 = .ok (.iconst 5, 1) := by decide +kernel
theorem dL_law_179 : decode cL_law 179 = .ok (.goto 53, 3) := by decide +kernel
theorem dL_law_182 : decode cL_law 182 = .ok (.iload 9, 2) := by decide +kernel
theorem dL_law_184 : decode cL_law 184 = .ok (.bipush 21, 2) := by decide +kernel
theorem dL_law_186 : decode cL_law 186 = .ok (.if_icmp .ge 8, 3) := by decide +kernel
theorem dL_law_189 : decode cL_law 189 = .ok (.bipush 6, 2) := by decide +kernel
theorem dL_law_191 : decode cL_law 191 = .ok (.goto 41, 3) := by decide +kernel
theorem dL_law_194 : decode cL_law 194 = .ok (.iload 9, 2) := by decide +kernel
theorem dL_law_196 : decode cL_law 196 = .ok (.bipush 23, 2) := by decide +kernel
theorem dL_law_198 : decode cL_law 198 = .ok (.if_icmp .ge 8, 3) := by decide +kernel
theorem dL_law_201 : decode cL_law 201 = .ok (.bipush 7, 2) := by decide +kernel
theorem dL_law_203 : decode cL_law 203 = .ok (.goto 29, 3) := by decide +kernel
theorem dL_law_206 : decode cL_law 206 = .ok (.iload 9, 2) := by decide +kernel
theorem dL_law_208 : decode cL_law 208 = .ok (.bipush 23, 2) := by decide +kernel
theorem dL_law_210 : decode cL_law 210 = .ok (.if_icmp .ne 8, 3) := by decide +kernel
theorem dL_law_213 : decode cL_law 213 = .ok (.bipush 8, 2) := by decide +kernel
theorem dL_law_215 : decode cL_law 215 = .ok (.goto 17, 3) := by decide +kernel
theorem dL_law_218 : decode cL_law 218 = .ok (.iload 9, 2) := by decide +kernel
theorem dL_law_220 : decode cL_law 220 = .ok (.bipush 26, 2) := by decide +kernel
theorem dL_law_222 : decode cL_law 222 = .ok (.if_icmp .ge 8, 3) := by decide +kernel
theorem dL_law_225 : decode cL_law 225 = .ok (.bipush 9, 2) := by decide +kernel
theorem dL_law_227 : decode cL_law 227 = .ok (.goto 5, 3) := by decide +kernel
theorem dL_law_230 : decode cL_law 230 = .ok (.bipush 10, 2) := by decide +kernel
theorem dL_law_232 : decode cL_law 232 = .ok (.istore 9, 2) := by decide +kernel
theorem dL_law_234 : decode cL_law 234 = .ok (.iload 9, 2) := by decide +kernel
theorem dL_law_236 : decode cL_law 236 = .ok (.ifCond .ne 12, 3) := by decide +kernel
theorem dL_law_239 : decode cL_law 239 = .ok (.iload 8, 2) := by decide +kernel
theorem dL_law_241 : decode cL_law 241 = .ok (.iconst 3, 1) := by decide +kernel
theorem dL_law_242 : decode cL_law 242 = .ok (.invokestatic 115, 3) := by decide +kernel
theorem dL_law_245 : decode cL_law 245 = .ok (.goto 70, 3) := by decide +kernel
theorem dL_law_248 : decode cL_law 248 = .ok (.iload 9, 2) := by decide +kernel
theorem dL_law_250 : decode cL_law 250 = .ok (.bipush 6, 2) := by decide +kernel
theorem dL_law_252 : decode cL_law 252 = .ok (.if_icmp .ne 13, 3) := by decide +kernel
theorem dL_law_255 : decode cL_law 255 = .ok (.iload 8, 2) := by decide +kernel
theorem dL_law_257 : decode cL_law 257 = .ok (.bipush 6, 2) := by decide +kernel
theorem dL_law_259 : decode cL_law 259 = .ok (.invokestatic 115, 3) := by decide +kernel
theorem dL_law_262 : decode cL_law 262 = .ok (.goto 53, 3) := by decide +kernel
theorem dL_law_265 : decode cL_law 265 = .ok (.iload 9, 2) := by decide +kernel
theorem dL_law_267 : decode cL_law 267 = .ok (.bipush 8, 2) := by decide +kernel
theorem dL_law_269 : decode cL_law 269 = .ok (.if_icmp .ne 12, 3) := by decide +kernel
theorem dL_law_272 : decode cL_law 272 = .ok (.iload 8, 2) := by decide +kernel
theorem dL_law_274 : decode cL_law 274 = .ok (.iconst 2, 1) := by decide +kernel
theorem dL_law_275 : decode cL_law 275 = .ok (.invokestatic 115, 3) := by decide +kernel
theorem dL_law_278 : decode cL_law 278 = .ok (.goto 37, 3) := by decide +kernel
theorem dL_law_281 : decode cL_law 281 = .ok (.iload 8, 2) := by decide +kernel
theorem dL_law_283 : decode cL_law 283 = .ok (.iload 8, 2) := by decide +kernel
theorem dL_law_285 : decode cL_law 285 = .ok (.bipush 20, 2) := by decide +kernel
theorem dL_law_287 : decode cL_law 287 = .ok (.ishr, 1) := by decide +kernel
theorem dL_law_288 : decode cL_law 288 = .ok (.bipush 9, 2) := by decide +kernel
theorem dL_law_290 : decode cL_law 290 = .ok (.invokestatic 115, 3) := by decide +kernel
theorem dL_law_293 : decode cL_law 293 = .ok (.ifCond .eq 10, 3) := by decide +kernel
theorem dL_law_296 : decode cL_law 296 = .ok (.aload_n 2, 1) := by decide +kernel
theorem dL_law_297 : decode cL_law 297 = .ok (.bipush 10, 2) := by decide +kernel
theorem dL_law_299 : decode cL_law 299 = .ok (.iaload, 1) := by decide +kernel
theorem dL_law_300 : decode cL_law 300 = .ok (.ifCond .ne 8, 3) := by decide +kernel
theorem dL_law_303 : decode cL_law 303 = .ok (.bipush 12, 2) := by decide +kernel
theorem dL_law_305 : decode cL_law 305 = .ok (.goto 7, 3) := by decide +kernel
theorem dL_law_308 : decode cL_law 308 = .ok (.aload_n 2, 1) := by decide +kernel
theorem dL_law_309 : decode cL_law 309 = .ok (.bipush 10, 2) := by decide +kernel
theorem dL_law_311 : decode cL_law 311 = .ok (.iaload, 1) := by decide +kernel
theorem dL_law_312 : decode cL_law 312 = .ok (.invokestatic 115, 3) := by decide +kernel
theorem dL_law_315 : decode cL_law 315 = .ok (.istore 10, 2) := by decide +kernel
theorem dL_law_317 : decode cL_law 317 = .ok (.iload 9, 2) := by decide +kernel
theorem dL_law_319 : decode cL_law 319 = .ok (.iconst 1, 1) := by decide +kernel
theorem dL_law_320 : decode cL_law 320 = .ok (.if_icmp .ne 15, 3) := by decide +kernel
theorem dL_law_323 : decode cL_law 323 = .ok (.iload 8, 2) := by decide +kernel
theorem dL_law_325 : decode cL_law 325 = .ok (.iconst 4, 1) := by decide +kernel
theorem dL_law_326 : decode cL_law 326 = .ok (.ishr, 1) := by decide +kernel
theorem dL_law_327 : decode cL_law 327 = .ok (.bipush 6, 2) := by decide +kernel
theorem dL_law_329 : decode cL_law 329 = .ok (.invokestatic 115, 3) := by decide +kernel
theorem dL_law_332 : decode cL_law 332 = .ok (.goto 41, 3) := by decide +kernel
theorem dL_law_335 : decode cL_law 335 = .ok (.iload 9, 2) := by decide +kernel
theorem dL_law_337 : decode cL_law 337 = .ok (.bipush 6, 2) := by decide +kernel
theorem dL_law_339 : decode cL_law 339 = .ok (.if_icmp .ne 17, 3) := by decide +kernel
theorem dL_law_342 : decode cL_law 342 = .ok (.iconst 1, 1) := by decide +kernel
theorem dL_law_343 : decode cL_law 343 = .ok (.iload 8, 2) := by decide +kernel
theorem dL_law_345 : decode cL_law 345 = .ok (.iconst 4, 1) := by decide +kernel
theorem dL_law_346 : decode cL_law 346 = .ok (.ishr, 1) := by decide +kernel
theorem dL_law_347 : decode cL_law 347 = .ok (.bipush 9, 2) := by decide +kernel
theorem dL_law_349 : decode cL_law 349 = .ok (.invokestatic 115, 3) := by decide +kernel
theorem dL_law_352 : decode cL_law 352 = .ok (.iadd, 1) := by decide +kernel
theorem dL_law_353 : decode cL_law 353 = .ok (.goto 20, 3) := by decide +kernel
theorem dL_law_356 : decode cL_law 356 = .ok (.iload 8, 2) := by decide +kernel
theorem dL_law_358 : decode cL_law 358 = .ok (.iconst 4, 1) := by decide +kernel
theorem dL_law_359 : decode cL_law 359 = .ok (.ishr, 1) := by decide +kernel
theorem dL_law_360 : decode cL_law 360 = .ok (.iload 9, 2) := by decide +kernel
theorem dL_law_362 : decode cL_law 362 = .ok (.ifCond .ne 7, 3) := by decide +kernel
theorem dL_law_365 : decode cL_law 365 = .ok (.iconst 5, 1) := by decide +kernel
theorem dL_law_366 : decode cL_law 366 = .ok (.goto 4, 3) := by decide +kernel
theorem dL_law_369 : decode cL_law 369 = .ok (.iconst 4, 1) := by decide +kernel
theorem dL_law_370 : decode cL_law 370 = .ok (.invokestatic 115, 3) := by decide +kernel
theorem dL_law_373 : decode cL_law 373 = .ok (.istore 11, 2) := by decide +kernel
theorem dL_law_375 : decode cL_law 375 = .ok (.iload 9, 2) := by decide +kernel
theorem dL_law_377 : decode cL_law 377 = .ok (.ifCond .ne 16, 3) := by decide +kernel
theorem dL_law_380 : decode cL_law 380 = .ok (.iload 8, 2) := by decide +kernel
theorem dL_law_382 : decode cL_law 382 = .ok (.bipush 7, 2) := by decide +kernel
theorem dL_law_384 : decode cL_law 384 = .ok (.ishr, 1) := by decide +kernel
theorem dL_law_385 : decode cL_law 385 = .ok (.bipush 36, 2) := by decide +kernel
theorem dL_law_387 : decode cL_law 387 = .ok (.invokestatic 115, 3) := by decide +kernel
theorem dL_law_390 : decode cL_law 390 = .ok (.goto 103, 3) := by decide +kernel
theorem dL_law_393 : decode cL_law 393 = .ok (.iload 9, 2) := by decide +kernel
theorem dL_law_395 : decode cL_law 395 = .ok (.iconst 5, 1) := by decide +kernel
theorem dL_law_396 : decode cL_law 396 = .ok (.if_icmp .ne 18, 3) := by decide +kernel
theorem dL_law_399 : decode cL_law 399 = .ok (.iconst 1, 1) := by decide +kernel
theorem dL_law_400 : decode cL_law 400 = .ok (.iload 8, 2) := by decide +kernel
theorem dL_law_402 : decode cL_law 402 = .ok (.bipush 7, 2) := by decide +kernel
theorem dL_law_404 : decode cL_law 404 = .ok (.ishr, 1) := by decide +kernel
theorem dL_law_405 : decode cL_law 405 = .ok (.bipush 64, 2) := by decide +kernel
theorem dL_law_407 : decode cL_law 407 = .ok (.invokestatic 115, 3) := by decide +kernel
theorem dL_law_410 : decode cL_law 410 = .ok (.iadd, 1) := by decide +kernel
theorem dL_law_411 : decode cL_law 411 = .ok (.goto 82, 3) := by decide +kernel
theorem dL_law_414 : decode cL_law 414 = .ok (.iload 9, 2) := by decide +kernel
theorem dL_law_416 : decode cL_law 416 = .ok (.bipush 7, 2) := by decide +kernel
theorem dL_law_418 : decode cL_law 418 = .ok (.if_icmp .ne 16, 3) := by decide +kernel
theorem dL_law_421 : decode cL_law 421 = .ok (.iload 8, 2) := by decide +kernel
theorem dL_law_423 : decode cL_law 423 = .ok (.bipush 7, 2) := by decide +kernel
theorem dL_law_425 : decode cL_law 425 = .ok (.ishr, 1) := by decide +kernel
theorem dL_law_426 : decode cL_law 426 = .ok (.bipush 10, 2) := by decide +kernel
theorem dL_law_428 : decode cL_law 428 = .ok (.invokestatic 115, 3) := by decide +kernel
theorem dL_law_431 : decode cL_law 431 = .ok (.goto 62, 3) := by decide +kernel
theorem dL_law_434 : decode cL_law 434 = .ok (.iload 9, 2) := by decide +kernel
theorem dL_law_436 : decode cL_law 436 = .ok (.bipush 8, 2) := by decide +kernel
theorem dL_law_438 : decode cL_law 438 = .ok (.if_icmp .ne 26, 3) := by decide +kernel
theorem dL_law_441 : decode cL_law 441 = .ok (.iload 8, 2) := by decide +kernel
theorem dL_law_443 : decode cL_law 443 = .ok (.bipush 7, 2) := by decide +kernel
theorem dL_law_445 : decode cL_law 445 = .ok (.ishr, 1) := by decide +kernel
theorem dL_law_446 : decode cL_law 446 = .ok (.iload 10, 2) := by decide +kernel
theorem dL_law_448 : decode cL_law 448 = .ok (.ifCond .ne 8, 3) := by decide +kernel
theorem dL_law_451 : decode cL_law 451 = .ok (.bipush 20, 2) := by decide +kernel
theorem dL_law_453 : decode cL_law 453 = .ok (.goto 5, 3) := by decide +kernel
theorem dL_law_456 : decode cL_law 456 = .ok (.bipush 9, 2) := by decide +kernel
theorem dL_law_458 : decode cL_law 458 = .ok (.invokestatic 115, 3) := by decide +kernel
theorem dL_law_461 : decode cL_law 461 = .ok (.goto 32, 3) := by decide +kernel
theorem dL_law_464 : decode cL_law 464 = .ok (.iconst 1, 1) := by decide +kernel
theorem dL_law_465 : decode cL_law 465 = .ok (.iload 8, 2) := by decide +kernel
theorem dL_law_467 : decode cL_law 467 = .ok (.bipush 7, 2) := by decide +kernel
theorem dL_law_469 : decode cL_law 469 = .ok (.ishr, 1) := by decide +kernel
theorem dL_law_470 : decode cL_law 470 = .ok (.iload 8, 2) := by decide +kernel
theorem dL_law_472 : decode cL_law 472 = .ok (.bipush 20, 2) := by decide +kernel
theorem dL_law_474 : decode cL_law 474 = .ok (.ishr, 1) := by decide +kernel
theorem dL_law_475 : decode cL_law 475 = .ok (.iconst 3, 1) := by decide +kernel
theorem dL_law_476 : decode cL_law 476 = .ok (.invokestatic 115, 3) := by decide +kernel
theorem dL_law_479 : decode cL_law 479 = .ok (.ifCond .ne 8, 3) := by decide +kernel
theorem dL_law_482 : decode cL_law 482 = .ok (.bipush 60, 2) := by decide +kernel
theorem dL_law_484 : decode cL_law 484 = .ok (.goto 5, 3) := by decide +kernel
theorem dL_law_487 : decode cL_law 487 = .ok (.bipush 8, 2) := by decide +kernel
theorem dL_law_489 : decode cL_law 489 = .ok (.invokestatic 115, 3) := by decide +kernel
theorem dL_law_492 : decode cL_law 492 = .ok (.iadd, 1) := by decide +kernel
theorem dL_law_493 : decode cL_law 493 = .ok (.istore 12, 2) := by decide +kernel
theorem dL_law_495 : decode cL_law 495 = .ok (.aload_n 1, 1) := by decide +kernel
theorem dL_law_496 : decode cL_law 496 = .ok (.invokestatic 142, 3) := by decide +kernel
theorem dL_law_499 : decode cL_law 499 = .ok (.lstore 13, 2) := by decide +kernel
theorem dL_law_501 : decode cL_law 501 = .ok (.aload_n 1, 1) := by decide +kernel
theorem dL_law_502 : decode cL_law 502 = .ok (.iload 9, 2) := by decide +kernel
theorem dL_law_504 : decode cL_law 504 = .ok (.iload 10, 2) := by decide +kernel
theorem dL_law_506 : decode cL_law 506 = .ok (.iload 11, 2) := by decide +kernel
theorem dL_law_508 : decode cL_law 508 = .ok (.iload 12, 2) := by decide +kernel
theorem dL_law_510 : decode cL_law 510 = .ok (.invokestatic 146, 3) := by decide +kernel
theorem dL_law_513 : decode cL_law 513 = .ok (.istore 15, 2) := by decide +kernel
theorem dL_law_515 : decode cL_law 515 = .ok (.iload 15, 2) := by decide +kernel
theorem dL_law_517 : decode cL_law 517 = .ok (.ifCond .ge 16, 3) := by decide +kernel
theorem dL_law_520 : decode cL_law 520 = .ok (.aload_n 1, 1) := by decide +kernel
theorem dL_law_521 : decode cL_law 521 = .ok (.invokestatic 142, 3) := by decide +kernel
theorem dL_law_524 : decode cL_law 524 = .ok (.lload 13, 2) := by decide +kernel
theorem dL_law_526 : decode cL_law 526 = .ok (.lcmp, 1) := by decide +kernel
theorem dL_law_527 : decode cL_law 527 = .ok (.ifCond .eq 52, 3) := by decide +kernel
theorem dL_law_530 : decode cL_law 530 = .ok (.goto 47, 3) := by decide +kernel
theorem dL_law_533 : decode cL_law 533 = .ok (.iload 7, 2) := by decide +kernel
theorem dL_law_535 : decode cL_law 535 = .ok (.bipush 24, 2) := by decide +kernel
theorem dL_law_537 : decode cL_law 537 = .ok (.ishr, 1) := by decide +kernel
theorem dL_law_538 : decode cL_law 538 = .ok (.iconst 3, 1) := by decide +kernel
theorem dL_law_539 : decode cL_law 539 = .ok (.iand, 1) := by decide +kernel
theorem dL_law_540 : decode cL_law 540 = .ok (.ifCond .ne 39, 3) := by decide +kernel
theorem dL_law_543 : decode cL_law 543 = .ok (.aload_n 1, 1) := by decide +kernel
theorem dL_law_544 : decode cL_law 544 = .ok (.invokevirtual 150, 3) := by decide +kernel
theorem dL_law_547 : decode cL_law 547 = .ok (.ifCond .lt 30, 3) := by decide +kernel
theorem dL_law_550 : decode cL_law 550 = .ok (.aload_n 1, 1) := by decide +kernel
theorem dL_law_551 : decode cL_law 551 = .ok (.invokestatic 142, 3) := by decide +kernel
theorem dL_law_554 : decode cL_law 554 = .ok (.lload 13, 2) := by decide +kernel
theorem dL_law_556 : decode cL_law 556 = .ok (.lcmp, 1) := by decide +kernel
theorem dL_law_557 : decode cL_law 557 = .ok (.ifCond .ne 20, 3) := by decide +kernel
theorem dL_law_560 : decode cL_law 560 = .ok (.aload_n 1, 1) := by decide +kernel
theorem dL_law_561 : decode cL_law 561 = .ok (.iload 9, 2) := by decide +kernel
theorem dL_law_563 : decode cL_law 563 = .ok (.iload 10, 2) := by decide +kernel
theorem dL_law_565 : decode cL_law 565 = .ok (.iload 11, 2) := by decide +kernel
theorem dL_law_567 : decode cL_law 567 = .ok (.iload 12, 2) := by decide +kernel
theorem dL_law_569 : decode cL_law 569 = .ok (.invokestatic 146, 3) := by decide +kernel
theorem dL_law_572 : decode cL_law 572 = .ok (.iload 15, 2) := by decide +kernel
theorem dL_law_574 : decode cL_law 574 = .ok (.if_icmp .eq 5, 3) := by decide +kernel
theorem dL_law_577 : decode cL_law 577 = .ok (.iconst 0, 1) := by decide +kernel
theorem dL_law_578 : decode cL_law 578 = .ok (.ireturn, 1) := by decide +kernel
theorem dL_law_579 : decode cL_law 579 = .ok (.iload 15, 2) := by decide +kernel
theorem dL_law_581 : decode cL_law 581 = .ok (.iload 9, 2) := by decide +kernel
theorem dL_law_583 : decode cL_law 583 = .ok (.iload 10, 2) := by decide +kernel
theorem dL_law_585 : decode cL_law 585 = .ok (.iload 11, 2) := by decide +kernel
theorem dL_law_587 : decode cL_law 587 = .ok (.iload 12, 2) := by decide +kernel
theorem dL_law_589 : decode cL_law 589 = .ok (.aload_n 2, 1) := by decide +kernel
theorem dL_law_590 : decode cL_law 590 = .ok (.aload_n 3, 1) := by decide +kernel
theorem dL_law_591 : decode cL_law 591 = .ok (.aload 4, 2) := by decide +kernel
theorem dL_law_593 : decode cL_law 593 = .ok (.aload 5, 2) := by decide +kernel
theorem dL_law_595 : decode cL_law 595 = .ok (.invokestatic 153, 3) := by decide +kernel
theorem dL_law_598 : decode cL_law 598 = .ok (.if_icmp .ne 20, 3) := by decide +kernel
theorem dL_law_601 : decode cL_law 601 = .ok (.aload_n 1, 1) := by decide +kernel
theorem dL_law_602 : decode cL_law 602 = .ok (.iload 7, 2) := by decide +kernel
theorem dL_law_604 : decode cL_law 604 = .ok (.iconst 5, 1) := by decide +kernel
theorem dL_law_605 : decode cL_law 605 = .ok (.ishr, 1) := by decide +kernel
theorem dL_law_606 : decode cL_law 606 = .ok (.aload_n 2, 1) := by decide +kernel
theorem dL_law_607 : decode cL_law 607 = .ok (.aload_n 3, 1) := by decide +kernel
theorem dL_law_608 : decode cL_law 608 = .ok (.aload 4, 2) := by decide +kernel
theorem dL_law_610 : decode cL_law 610 = .ok (.aload 5, 2) := by decide +kernel
theorem dL_law_612 : decode cL_law 612 = .ok (.invokestatic 157, 3) := by decide +kernel
theorem dL_law_615 : decode cL_law 615 = .ok (.ifCond .ne 5, 3) := by decide +kernel
theorem dL_law_618 : decode cL_law 618 = .ok (.iconst 0, 1) := by decide +kernel
theorem dL_law_619 : decode cL_law 619 = .ok (.ireturn, 1) := by decide +kernel
theorem dL_law_620 : decode cL_law 620 = .ok (.iinc 6 1, 3) := by decide +kernel
theorem dL_law_623 : decode cL_law 623 = .ok (.goto (-550), 3) := by decide +kernel
theorem dL_law_626 : decode cL_law 626 = .ok (.iconst 1, 1) := by decide +kernel
theorem dL_law_627 : decode cL_law 627 = .ok (.ireturn, 1) := by decide +kernel
