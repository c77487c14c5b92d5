theorem dX0_init_0 : decode cX0_init 0 = .ok (.aload_n 0, 1) := by decide +kernel
theorem dX0_init_1 : decode cX0_init 1 = .ok (.invokespecial 3, 3) := by decide +kernel
theorem dX0_init_4 : decode cX0_init 4 = .ok (.aload_n 0, 1) := by decide +kernel
theorem dX0_init_5 : decode cX0_init 5 = .ok (.iconst 4, 1) := by decide +kernel
theorem dX0_init_6 : decode cX0_init 6 = .ok (.newarray .float, 2) := by decide +kernel
theorem dX0_init_8 : decode cX0_init 8 = .ok (.putfield 9, 3) := by decide +kernel
theorem dX0_init_11 : decode cX0_init 11 = .ok (.aload_n 0, 1) := by decide +kernel
theorem dX0_init_12 : decode cX0_init 12 = .ok (.bipush 6, 2) := by decide +kernel
theorem dX0_init_14 : decode cX0_init 14 = .ok (.newarray .int, 2) := by decide +kernel
theorem dX0_init_16 : decode cX0_init 16 = .ok (.putfield 15, 3) := by decide +kernel
theorem dX0_init_19 : decode cX0_init 19 = .ok (.aload_n 0, 1) := by decide +kernel
theorem dX0_init_20 : decode cX0_init 20 = .ok (.iload_n 1, 1) := by decide +kernel
theorem dX0_init_21 : decode cX0_init 21 = .ok (.putfield 19, 3) := by decide +kernel
theorem dX0_init_24 : decode cX0_init 24 = .ok (.return_, 1) := by decide +kernel
theorem dX0_weigh_0 : decode cX0_weigh 0 = .ok (.iconst 0, 1) := by decide +kernel
theorem dX0_weigh_1 : decode cX0_weigh 1 = .ok (.istore_n 3, 1) := by decide +kernel
theorem dX0_weigh_2 : decode cX0_weigh 2 = .ok (.iload_n 3, 1) := by decide +kernel
theorem dX0_weigh_3 : decode cX0_weigh 3 = .ok (.iconst 4, 1) := by decide +kernel
theorem dX0_weigh_4 : decode cX0_weigh 4 = .ok (.if_icmp .ge 16, 3) := by decide +kernel
theorem dX0_weigh_7 : decode cX0_weigh 7 = .ok (.aload_n 0, 1) := by decide +kernel
theorem dX0_weigh_8 : decode cX0_weigh 8 = .ok (.getfield 9, 3) := by decide +kernel
theorem dX0_weigh_11 : decode cX0_weigh 11 = .ok (.iload_n 3, 1) := by decide +kernel
theorem dX0_weigh_12 : decode cX0_weigh 12 = .ok (.fconst 0, 1) := by decide +kernel
theorem dX0_weigh_13 : decode cX0_weigh 13 = .ok (.fastore, 1) := by decide +kernel
theorem dX0_weigh_14 : decode cX0_weigh 14 = .ok (.iinc 3 1, 3) := by decide +kernel
theorem dX0_weigh_17 : decode cX0_weigh 17 = .ok (.goto (-15), 3) := by decide +kernel
theorem dX0_weigh_20 : decode cX0_weigh 20 = .ok (.iconst 0, 1) := by decide +kernel
theorem dX0_weigh_21 : decode cX0_weigh 21 = .ok (.istore_n 3, 1) := by decide +kernel
theorem dX0_weigh_22 : decode cX0_weigh 22 = .ok (.iload_n 3, 1) := by decide +kernel
theorem dX0_weigh_23 : decode cX0_weigh 23 = .ok (.aload_n 1, 1) := by decide +kernel
theorem dX0_weigh_24 : decode cX0_weigh 24 = .ok (.getfield 23, 3) := by decide +kernel
theorem dX0_weigh_27 : decode cX0_weigh 27 = .ok (.if_icmp .ge 88, 3) := by decide +kernel
theorem dX0_weigh_30 : decode cX0_weigh 30 = .ok (.aload_n 1, 1) := by decide +kernel
theorem dX0_weigh_31 : decode cX0_weigh 31 = .ok (.getfield 29, 3) := by decide +kernel
theorem dX0_weigh_34 : decode cX0_weigh 34 = .ok (.iload_n 3, 1) := by decide +kernel
theorem dX0_weigh_35 : decode cX0_weigh 35 = .ok (.iaload, 1) := by decide +kernel
theorem dX0_weigh_36 : decode cX0_weigh 36 = .ok (.iload_n 2, 1) := by decide +kernel
theorem dX0_weigh_37 : decode cX0_weigh 37 = .ok (.if_icmp .eq 6, 3) := by decide +kernel
theorem dX0_weigh_40 : decode cX0_weigh 40 = .ok (.goto 69, 3) := by decide +kernel
theorem dX0_weigh_43 : decode cX0_weigh 43 = .ok (.aload_n 0, 1) := by decide +kernel
theorem dX0_weigh_44 : decode cX0_weigh 44 = .ok (.getfield 9, 3) := by decide +kernel
theorem dX0_weigh_47 : decode cX0_weigh 47 = .ok (.aload_n 1, 1) := by decide +kernel
theorem dX0_weigh_48 : decode cX0_weigh 48 = .ok (.getfield 32, 3) := by decide +kernel
theorem dX0_weigh_51 : decode cX0_weigh 51 = .ok (.iload_n 3, 1) := by decide +kernel
theorem dX0_weigh_52 : decode cX0_weigh 52 = .ok (.iaload, 1) := by decide +kernel
theorem dX0_weigh_53 : decode cX0_weigh 53 = .ok (.dup2, 1) := by decide +kernel
theorem dX0_weigh_54 : decode cX0_weigh 54 = .ok (.faload, 1) := by decide +kernel
theorem dX0_weigh_55 : decode cX0_weigh 55 = .ok (.aload_n 1, 1) := by decide +kernel
theorem dX0_weigh_56 : decode cX0_weigh 56 = .ok (.iload_n 3, 1) := by decide +kernel
theorem dX0_weigh_57 : decode cX0_weigh 57 = .ok (.invokevirtual 35, 3) := by decide +kernel
theorem dX0_weigh_60 : decode cX0_weigh 60 = .ok (.aload_n 1, 1) := by decide +kernel
theorem dX0_weigh_61 : decode cX0_weigh 61 = .ok (.getfield 39, 3) := by decide +kernel
theorem dX0_weigh_64 : decode cX0_weigh 64 = .ok (.iload_n 3, 1) := by decide +kernel
theorem dX0_weigh_65 : decode cX0_weigh 65 = .ok (.iaload, 1) := by decide +kernel
theorem dX0_weigh_66 : decode cX0_weigh 66 = .ok (.i2f, 1) := by decide +kernel
theorem dX0_weigh_67 : decode cX0_weigh 67 = .ok (.fmul, 1) := by decide +kernel
theorem dX0_weigh_68 : decode cX0_weigh 68 = .ok (.fadd, 1) := by decide +kernel
theorem dX0_weigh_69 : decode cX0_weigh 69 = .ok (.fastore, 1) := by decide +kernel
theorem dX0_weigh_70 : decode cX0_weigh 70 = .ok (.iconst 0, 1) := by decide +kernel
theorem dX0_weigh_71 : decode cX0_weigh 71 = .ok (.istore 4, 2) := by decide +kernel
theorem dX0_weigh_73 : decode cX0_weigh 73 = .ok (.aload_n 0, 1) := by decide +kernel
theorem dX0_weigh_74 : decode cX0_weigh 74 = .ok (.getfield 19, 3) := by decide +kernel
theorem dX0_weigh_77 : decode cX0_weigh 77 = .ok (.ifCond .eq 32, 3) := by decide +kernel
theorem dX0_weigh_80 : decode cX0_weigh 80 = .ok (.iload 4, 2) := by decide +kernel
theorem dX0_weigh_82 : decode cX0_weigh 82 = .ok (.iconst 4, 1) := by decide +kernel
theorem dX0_weigh_83 : decode cX0_weigh 83 = .ok (.if_icmp .ge 26, 3) := by decide +kernel
theorem dX0_weigh_86 : decode cX0_weigh 86 = .ok (.aload_n 0, 1) := by decide +kernel
theorem dX0_weigh_87 : decode cX0_weigh 87 = .ok (.getfield 9, 3) := by decide +kernel
theorem dX0_weigh_90 : decode cX0_weigh 90 = .ok (.iload 4, 2) := by decide +kernel
theorem dX0_weigh_92 : decode cX0_weigh 92 = .ok (.dup2, 1) := by decide +kernel
theorem dX0_weigh_93 : decode cX0_weigh 93 = .ok (.faload, 1) := by decide +kernel
theorem dX0_weigh_94 : decode cX0_weigh 94 = .ok (.aload_n 1, 1) := by decide +kernel
theorem dX0_weigh_95 : decode cX0_weigh 95 = .ok (.iload_n 3, 1) := by decide +kernel
theorem dX0_weigh_96 : decode cX0_weigh 96 = .ok (.iload 4, 2) := by decide +kernel
theorem dX0_weigh_98 : decode cX0_weigh 98 = .ok (.invokevirtual 42, 3) := by decide +kernel
theorem dX0_weigh_101 : decode cX0_weigh 101 = .ok (.fadd, 1) := by decide +kernel
theorem dX0_weigh_102 : decode cX0_weigh 102 = .ok (.fastore, 1) := by decide +kernel
theorem dX0_weigh_103 : decode cX0_weigh 103 = .ok (.iinc 4 1, 3) := by decide +kernel
theorem dX0_weigh_106 : decode cX0_weigh 106 = .ok (.goto (-33), 3) := by decide +kernel
theorem dX0_weigh_109 : decode cX0_weigh 109 = .ok (.iinc 3 1, 3) := by decide +kernel
theorem dX0_weigh_112 : decode cX0_weigh 112 = .ok (.goto (-90), 3) := by decide +kernel
theorem dX0_weigh_115 : decode cX0_weigh 115 = .ok (.return_, 1) := by decide +kernel
theorem dX0_greatestWeight_0 : decode cX0_greatestWeight 0 = .ok (.fconst 0, 1) := by decide +kernel
theorem dX0_greatestWeight_1 : decode cX0_greatestWeight 1 = .ok (.fstore_n 1, 1) := by decide +kernel
theorem dX0_greatestWeight_2 : decode cX0_greatestWeight 2 = .ok (.iconst 0, 1) := by decide +kernel
theorem dX0_greatestWeight_3 : decode cX0_greatestWeight 3 = .ok (.istore_n 2, 1) := by decide +kernel
theorem dX0_greatestWeight_4 : decode cX0_greatestWeight 4 = .ok (.iload_n 2, 1) := by decide +kernel
theorem dX0_greatestWeight_5 : decode cX0_greatestWeight 5 = .ok (.iconst 4, 1) := by decide +kernel
theorem dX0_greatestWeight_6 : decode cX0_greatestWeight 6 = .ok (.if_icmp .ge 27, 3) := by decide +kernel
theorem dX0_greatestWeight_9 : decode cX0_greatestWeight 9 = .ok (.aload_n 0, 1) := by decide +kernel
theorem dX0_greatestWeight_10 : decode cX0_greatestWeight 10 = .ok (.getfield 9, 3) := by decide +kernel
theorem dX0_greatestWeight_13 : decode cX0_greatestWeight 13 = .ok (.iload_n 2, 1) := by decide +kernel
theorem dX0_greatestWeight_14 : decode cX0_greatestWeight 14 = .ok (.faload, 1) := by decide +kernel
theorem dX0_greatestWeight_15 : decode cX0_greatestWeight 15 = .ok (.fload_n 1, 1) := by decide +kernel
theorem dX0_greatestWeight_16 : decode cX0_greatestWeight 16 = .ok (.fcmp .l, 1) := by decide +kernel
theorem dX0_greatestWeight_17 : decode cX0_greatestWeight 17 = .ok (.ifCond .le 10, 3) := by decide +kernel
theorem dX0_greatestWeight_20 : decode cX0_greatestWeight 20 = .ok (.aload_n 0, 1) := by decide +kernel
theorem dX0_greatestWeight_21 : decode cX0_greatestWeight 21 = .ok (.getfield 9, 3) := by decide +kernel
theorem dX0_greatestWeight_24 : decode cX0_greatestWeight 24 = .ok (.iload_n 2, 1) := by decide +kernel
theorem dX0_greatestWeight_25 : decode cX0_greatestWeight 25 = .ok (.faload, 1) := by decide +kernel
theorem dX0_greatestWeight_26 : decode cX0_greatestWeight 26 = .ok (.fstore_n 1, 1) := by decide +kernel
theorem dX0_greatestWeight_27 : decode cX0_greatestWeight 27 = .ok (.iinc 2 1, 3) := by decide +kernel
theorem dX0_greatestWeight_30 : decode cX0_greatestWeight 30 = .ok (.goto (-26), 3) := by decide +kernel
theorem dX0_greatestWeight_33 : decode cX0_greatestWeight 33 = .ok (.fload_n 1, 1) := by decide +kernel
theorem dX0_greatestWeight_34 : decode cX0_greatestWeight 34 = .ok (.freturn, 1) := by decide +kernel
theorem dX0_speakerOf_0 : decode cX0_speakerOf 0 = .ok (.bipush (-5), 2) := by decide +kernel
theorem dX0_speakerOf_2 : decode cX0_speakerOf 2 = .ok (.istore_n 3, 1) := by decide +kernel
theorem dX0_speakerOf_3 : decode cX0_speakerOf 3 = .ok (.iconst 0, 1) := by decide +kernel
theorem dX0_speakerOf_4 : decode cX0_speakerOf 4 = .ok (.istore 4, 2) := by decide +kernel
theorem dX0_speakerOf_6 : decode cX0_speakerOf 6 = .ok (.iload 4, 2) := by decide +kernel
theorem dX0_speakerOf_8 : decode cX0_speakerOf 8 = .ok (.aload_n 1, 1) := by decide +kernel
theorem dX0_speakerOf_9 : decode cX0_speakerOf 9 = .ok (.getfield 23, 3) := by decide +kernel
theorem dX0_speakerOf_12 : decode cX0_speakerOf 12 = .ok (.if_icmp .ge 37, 3) := by decide +kernel
theorem dX0_speakerOf_15 : decode cX0_speakerOf 15 = .ok (.aload_n 1, 1) := by decide +kernel
theorem dX0_speakerOf_16 : decode cX0_speakerOf 16 = .ok (.getfield 29, 3) := by decide +kernel
theorem dX0_speakerOf_19 : decode cX0_speakerOf 19 = .ok (.iload 4, 2) := by decide +kernel
theorem dX0_speakerOf_21 : decode cX0_speakerOf 21 = .ok (.iaload, 1) := by decide +kernel
theorem dX0_speakerOf_22 : decode cX0_speakerOf 22 = .ok (.iload_n 2, 1) := by decide +kernel
theorem dX0_speakerOf_23 : decode cX0_speakerOf 23 = .ok (.if_icmp .ne 20, 3) := by decide +kernel
theorem dX0_speakerOf_26 : decode cX0_speakerOf 26 = .ok (.iload_n 3, 1) := by decide +kernel
theorem dX0_speakerOf_27 : decode cX0_speakerOf 27 = .ok (.ifCond .lt 13, 3) := by decide +kernel
theorem dX0_speakerOf_30 : decode cX0_speakerOf 30 = .ok (.aload_n 1, 1) := by decide +kernel
theorem dX0_speakerOf_31 : decode cX0_speakerOf 31 = .ok (.iload 4, 2) := by decide +kernel
theorem dX0_speakerOf_33 : decode cX0_speakerOf 33 = .ok (.iload_n 3, 1) := by decide +kernel
theorem dX0_speakerOf_34 : decode cX0_speakerOf 34 = .ok (.invokestatic 46, 3) := by decide +kernel
theorem dX0_speakerOf_37 : decode cX0_speakerOf 37 = .ok (.ifCond .eq 6, 3) := by decide +kernel
theorem dX0_speakerOf_40 : decode cX0_speakerOf 40 = .ok (.iload 4, 2) := by decide +kernel
theorem dX0_speakerOf_42 : decode cX0_speakerOf 42 = .ok (.istore_n 3, 1) := by decide +kernel
theorem dX0_speakerOf_43 : decode cX0_speakerOf 43 = .ok (.iinc 4 1, 3) := by decide +kernel
theorem dX0_speakerOf_46 : decode cX0_speakerOf 46 = .ok (.goto (-40), 3) := by decide +kernel
theorem dX0_speakerOf_49 : decode cX0_speakerOf 49 = .ok (.iload_n 3, 1) := by decide +kernel
theorem dX0_speakerOf_50 : decode cX0_speakerOf 50 = .ok (.ireturn, 1) := by decide +kernel
theorem dX0_speaksBefore_0 : decode cX0_speaksBefore 0 = .ok (.aload_n 0, 1) := by decide +kernel
theorem dX0_speaksBefore_1 : decode cX0_speaksBefore 1 = .ok (.getfield 39, 3) := by decide +kernel
theorem dX0_speaksBefore_4 : decode cX0_speaksBefore 4 = .ok (.iload_n 1, 1) := by decide +kernel
theorem dX0_speaksBefore_5 : decode cX0_speaksBefore 5 = .ok (.iaload, 1) := by decide +kernel
theorem dX0_speaksBefore_6 : decode cX0_speaksBefore 6 = .ok (.aload_n 0, 1) := by decide +kernel
theorem dX0_speaksBefore_7 : decode cX0_speaksBefore 7 = .ok (.getfield 39, 3) := by decide +kernel
theorem dX0_speaksBefore_10 : decode cX0_speaksBefore 10 = .ok (.iload_n 2, 1) := by decide +kernel
theorem dX0_speaksBefore_11 : decode cX0_speaksBefore 11 = .ok (.iaload, 1) := by decide +kernel
theorem dX0_speaksBefore_12 : decode cX0_speaksBefore 12 = .ok (.if_icmp .eq 24, 3) := by decide +kernel
theorem dX0_speaksBefore_15 : decode cX0_speaksBefore 15 = .ok (.aload_n 0, 1) := by decide +kernel
theorem dX0_speaksBefore_16 : decode cX0_speaksBefore 16 = .ok (.getfield 39, 3) := by decide +kernel
theorem dX0_speaksBefore_19 : decode cX0_speaksBefore 19 = .ok (.iload_n 1, 1) := by decide +kernel
theorem dX0_speaksBefore_20 : decode cX0_speaksBefore 20 = .ok (.iaload, 1) := by decide +kernel
theorem dX0_speaksBefore_21 : decode cX0_speaksBefore 21 = .ok (.aload_n 0, 1) := by decide +kernel
theorem dX0_speaksBefore_22 : decode cX0_speaksBefore 22 = .ok (.getfield 39, 3) := by decide +kernel
theorem dX0_speaksBefore_25 : decode cX0_speaksBefore 25 = .ok (.iload_n 2, 1) := by decide +kernel
theorem dX0_speaksBefore_26 : decode cX0_speaksBefore 26 = .ok (.iaload, 1) := by decide +kernel
theorem dX0_speaksBefore_27 : decode cX0_speaksBefore 27 = .ok (.if_icmp .le 7, 3) := by decide +kernel
theorem dX0_speaksBefore_30 : decode cX0_speaksBefore 30 = .ok (.iconst 1, 1) := by decide +kernel
theorem dX0_speaksBefore_31 : decode cX0_speaksBefore 31 = .ok (.goto 4, 3) := by decide +kernel
theorem dX0_speaksBefore_34 : decode cX0_speaksBefore 34 = .ok (.iconst 0, 1) := by decide +kernel
theorem dX0_speaksBefore_35 : decode cX0_speaksBefore 35 = .ok (.ireturn, 1) := by decide +kernel
theorem dX0_speaksBefore_36 : decode cX0_speaksBefore 36 = .ok (.aload_n 0, 1) := by decide +kernel
theorem dX0_speaksBefore_37 : decode cX0_speaksBefore 37 = .ok (.getfield 50, 3) := by decide +kernel
theorem dX0_speaksBefore_40 : decode cX0_speaksBefore 40 = .ok (.iload_n 1, 1) := by decide +kernel
theorem dX0_speaksBefore_41 : decode cX0_speaksBefore 41 = .ok (.iaload, 1) := by decide +kernel
theorem dX0_speaksBefore_42 : decode cX0_speaksBefore 42 = .ok (.aload_n 0, 1) := by decide +kernel
theorem dX0_speaksBefore_43 : decode cX0_speaksBefore 43 = .ok (.getfield 50, 3) := by decide +kernel
theorem dX0_speaksBefore_46 : decode cX0_speaksBefore 46 = .ok (.iload_n 2, 1) := by decide +kernel
theorem dX0_speaksBefore_47 : decode cX0_speaksBefore 47 = .ok (.iaload, 1) := by decide +kernel
theorem dX0_speaksBefore_48 : decode cX0_speaksBefore 48 = .ok (.if_icmp .le 7, 3) := by decide +kernel
theorem dX0_speaksBefore_51 : decode cX0_speaksBefore 51 = .ok (.iconst 1, 1) := by decide +kernel
theorem dX0_speaksBefore_52 : decode cX0_speaksBefore 52 = .ok (.goto 4, 3) := by decide +kernel
theorem dX0_speaksBefore_55 : decode cX0_speaksBefore 55 = .ok (.iconst 0, 1) := by decide +kernel
theorem dX0_speaksBefore_56 : decode cX0_speaksBefore 56 = .ok (.ireturn, 1) := by decide +kernel
theorem dX0_voteOf_0 : decode cX0_voteOf 0 = .ok (.aload_n 0, 1) := by decide +kernel
theorem dX0_voteOf_1 : decode cX0_voteOf 1 = .ok (.aload_n 1, 1) := by decide +kernel
theorem dX0_voteOf_2 : decode cX0_voteOf 2 = .ok (.iload_n 2, 1) := by decide +kernel
theorem dX0_voteOf_3 : decode cX0_voteOf 3 = .ok (.invokevirtual 53, 3) := by decide +kernel
theorem dX0_voteOf_6 : decode cX0_voteOf 6 = .ok (.istore_n 3, 1) := by decide +kernel
theorem dX0_voteOf_7 : decode cX0_voteOf 7 = .ok (.iload_n 3, 1) := by decide +kernel
theorem dX0_voteOf_8 : decode cX0_voteOf 8 = .ok (.ifCond .ge 6, 3) := by decide +kernel
theorem dX0_voteOf_11 : decode cX0_voteOf 11 = .ok (.bipush (-5), 2) := by decide +kernel
theorem dX0_voteOf_13 : decode cX0_voteOf 13 = .ok (.ireturn, 1) := by decide +kernel
theorem dX0_voteOf_14 : decode cX0_voteOf 14 = .ok (.aload_n 0, 1) := by decide +kernel
theorem dX0_voteOf_15 : decode cX0_voteOf 15 = .ok (.aload_n 1, 1) := by decide +kernel
theorem dX0_voteOf_16 : decode cX0_voteOf 16 = .ok (.iload_n 2, 1) := by decide +kernel
theorem dX0_voteOf_17 : decode cX0_voteOf 17 = .ok (.invokevirtual 57, 3) := by decide +kernel
theorem dX0_voteOf_20 : decode cX0_voteOf 20 = .ok (.aload_n 0, 1) := by decide +kernel
theorem dX0_voteOf_21 : decode cX0_voteOf 21 = .ok (.invokevirtual 61, 3) := by decide +kernel
theorem dX0_voteOf_24 : decode cX0_voteOf 24 = .ok (.fstore 4, 2) := by decide +kernel
theorem dX0_voteOf_26 : decode cX0_voteOf 26 = .ok (.fload 4, 2) := by decide +kernel
theorem dX0_voteOf_28 : decode cX0_voteOf 28 = .ok (.fconst 0, 1) := by decide +kernel
theorem dX0_voteOf_29 : decode cX0_voteOf 29 = .ok (.fcmp .g, 1) := by decide +kernel
theorem dX0_voteOf_30 : decode cX0_voteOf 30 = .ok (.ifCond .gt 6, 3) := by decide +kernel
theorem dX0_voteOf_33 : decode cX0_voteOf 33 = .ok (.bipush (-5), 2) := by decide +kernel
theorem dX0_voteOf_35 : decode cX0_voteOf 35 = .ok (.ireturn, 1) := by decide +kernel
theorem dX0_voteOf_36 : decode cX0_voteOf 36 = .ok (.aload_n 1, 1) := by decide +kernel
theorem dX0_voteOf_37 : decode cX0_voteOf 37 = .ok (.getfield 32, 3) := by decide +kernel
theorem dX0_voteOf_40 : decode cX0_voteOf 40 = .ok (.iload_n 3, 1) := by decide +kernel
theorem dX0_voteOf_41 : decode cX0_voteOf 41 = .ok (.iaload, 1) := by decide +kernel
theorem dX0_voteOf_42 : decode cX0_voteOf 42 = .ok (.istore 5, 2) := by decide +kernel
theorem dX0_voteOf_44 : decode cX0_voteOf 44 = .ok (.aload_n 0, 1) := by decide +kernel
theorem dX0_voteOf_45 : decode cX0_voteOf 45 = .ok (.getfield 9, 3) := by decide +kernel
theorem dX0_voteOf_48 : decode cX0_voteOf 48 = .ok (.iload 5, 2) := by decide +kernel
theorem dX0_voteOf_50 : decode cX0_voteOf 50 = .ok (.faload, 1) := by decide +kernel
theorem dX0_voteOf_51 : decode cX0_voteOf 51 = .ok (.fload 4, 2) := by decide +kernel
theorem dX0_voteOf_53 : decode cX0_voteOf 53 = .ok (.fcmp .l, 1) := by decide +kernel
theorem dX0_voteOf_54 : decode cX0_voteOf 54 = .ok (.ifCond .ne 8, 3) := by decide +kernel
theorem dX0_voteOf_57 : decode cX0_voteOf 57 = .ok (.iload 5, 2) := by decide +kernel
theorem dX0_voteOf_59 : decode cX0_voteOf 59 = .ok (.goto 9, 3) := by decide +kernel
theorem dX0_voteOf_62 : decode cX0_voteOf 62 = .ok (.aload_n 0, 1) := by decide +kernel
theorem dX0_voteOf_63 : decode cX0_voteOf 63 = .ok (.fload 4, 2) := by decide +kernel
theorem dX0_voteOf_65 : decode cX0_voteOf 65 = .ok (.invokevirtual 65, 3) := by decide +kernel
theorem dX0_voteOf_68 : decode cX0_voteOf 68 = .ok (.ireturn, 1) := by decide +kernel
theorem dX0_lowestOf_0 : decode cX0_lowestOf 0 = .ok (.iconst 0, 1) := by decide +kernel
theorem dX0_lowestOf_1 : decode cX0_lowestOf 1 = .ok (.istore_n 2, 1) := by decide +kernel
theorem dX0_lowestOf_2 : decode cX0_lowestOf 2 = .ok (.iload_n 2, 1) := by decide +kernel
theorem dX0_lowestOf_3 : decode cX0_lowestOf 3 = .ok (.iconst 4, 1) := by decide +kernel
theorem dX0_lowestOf_4 : decode cX0_lowestOf 4 = .ok (.if_icmp .ge 22, 3) := by decide +kernel
theorem dX0_lowestOf_7 : decode cX0_lowestOf 7 = .ok (.aload_n 0, 1) := by decide +kernel
theorem dX0_lowestOf_8 : decode cX0_lowestOf 8 = .ok (.getfield 9, 3) := by decide +kernel
theorem dX0_lowestOf_11 : decode cX0_lowestOf 11 = .ok (.iload_n 2, 1) := by decide +kernel
theorem dX0_lowestOf_12 : decode cX0_lowestOf 12 = .ok (.faload, 1) := by decide +kernel
theorem dX0_lowestOf_13 : decode cX0_lowestOf 13 = .ok (.fload_n 1, 1) := by decide +kernel
theorem dX0_lowestOf_14 : decode cX0_lowestOf 14 = .ok (.fcmp .l, 1) := by decide +kernel
theorem dX0_lowestOf_15 : decode cX0_lowestOf 15 = .ok (.ifCond .ne 5, 3) := by decide +kernel
theorem dX0_lowestOf_18 : decode cX0_lowestOf 18 = .ok (.iload_n 2, 1) := by decide +kernel
theorem dX0_lowestOf_19 : decode cX0_lowestOf 19 = .ok (.ireturn, 1) := by decide +kernel
theorem dX0_lowestOf_20 : decode cX0_lowestOf 20 = .ok (.iinc 2 1, 3) := by decide +kernel
theorem dX0_lowestOf_23 : decode cX0_lowestOf 23 = .ok (.goto (-21), 3) := by decide +kernel
theorem dX0_lowestOf_26 : decode cX0_lowestOf 26 = .ok (.bipush (-5), 2) := by decide +kernel
theorem dX0_lowestOf_28 : decode cX0_lowestOf 28 = .ok (.ireturn, 1) := by decide +kernel
theorem dX0_howManyOf_0 : decode cX0_howManyOf 0 = .ok (.iconst 0, 1) := by decide +kernel
theorem dX0_howManyOf_1 : decode cX0_howManyOf 1 = .ok (.istore_n 2, 1) := by decide +kernel
theorem dX0_howManyOf_2 : decode cX0_howManyOf 2 = .ok (.iconst 0, 1) := by decide +kernel
theorem dX0_howManyOf_3 : decode cX0_howManyOf 3 = .ok (.istore_n 3, 1) := by decide +kernel
theorem dX0_howManyOf_4 : decode cX0_howManyOf 4 = .ok (.iload_n 3, 1) := by decide +kernel
theorem dX0_howManyOf_5 : decode cX0_howManyOf 5 = .ok (.iconst 4, 1) := by decide +kernel
theorem dX0_howManyOf_6 : decode cX0_howManyOf 6 = .ok (.if_icmp .ge 23, 3) := by decide +kernel
theorem dX0_howManyOf_9 : decode cX0_howManyOf 9 = .ok (.aload_n 0, 1) := by decide +kernel
theorem dX0_howManyOf_10 : decode cX0_howManyOf 10 = .ok (.getfield 9, 3) := by decide +kernel
theorem dX0_howManyOf_13 : decode cX0_howManyOf 13 = .ok (.iload_n 3, 1) := by decide +kernel
theorem dX0_howManyOf_14 : decode cX0_howManyOf 14 = .ok (.faload, 1) := by decide +kernel
theorem dX0_howManyOf_15 : decode cX0_howManyOf 15 = .ok (.fload_n 1, 1) := by decide +kernel
theorem dX0_howManyOf_16 : decode cX0_howManyOf 16 = .ok (.fcmp .l, 1) := by decide +kernel
theorem dX0_howManyOf_17 : decode cX0_howManyOf 17 = .ok (.ifCond .ne 6, 3) := by decide +kernel
theorem dX0_howManyOf_20 : decode cX0_howManyOf 20 = .ok (.iinc 2 1, 3) := by decide +kernel
theorem dX0_howManyOf_23 : decode cX0_howManyOf 23 = .ok (.iinc 3 1, 3) := by decide +kernel
theorem dX0_howManyOf_26 : decode cX0_howManyOf 26 = .ok (.goto (-22), 3) := by decide +kernel
theorem dX0_howManyOf_29 : decode cX0_howManyOf 29 = .ok (.iload_n 2, 1) := by decide +kernel
theorem dX0_howManyOf_30 : decode cX0_howManyOf 30 = .ok (.ireturn, 1) := by decide +kernel
theorem dX0_reasonOf_0 : decode cX0_reasonOf 0 = .ok (.aload_n 0, 1) := by decide +kernel
theorem dX0_reasonOf_1 : decode cX0_reasonOf 1 = .ok (.aload_n 1, 1) := by decide +kernel
theorem dX0_reasonOf_2 : decode cX0_reasonOf 2 = .ok (.iload_n 2, 1) := by decide +kernel
theorem dX0_reasonOf_3 : decode cX0_reasonOf 3 = .ok (.invokevirtual 53, 3) := by decide +kernel
theorem dX0_reasonOf_6 : decode cX0_reasonOf 6 = .ok (.istore_n 3, 1) := by decide +kernel
theorem dX0_reasonOf_7 : decode cX0_reasonOf 7 = .ok (.iload_n 3, 1) := by decide +kernel
theorem dX0_reasonOf_8 : decode cX0_reasonOf 8 = .ok (.ifCond .ge 5, 3) := by decide +kernel
theorem dX0_reasonOf_11 : decode cX0_reasonOf 11 = .ok (.iconst 3, 1) := by decide +kernel
theorem dX0_reasonOf_12 : decode cX0_reasonOf 12 = .ok (.ireturn, 1) := by decide +kernel
theorem dX0_reasonOf_13 : decode cX0_reasonOf 13 = .ok (.aload_n 0, 1) := by decide +kernel
theorem dX0_reasonOf_14 : decode cX0_reasonOf 14 = .ok (.aload_n 1, 1) := by decide +kernel
theorem dX0_reasonOf_15 : decode cX0_reasonOf 15 = .ok (.iload_n 2, 1) := by decide +kernel
theorem dX0_reasonOf_16 : decode cX0_reasonOf 16 = .ok (.invokevirtual 57, 3) := by decide +kernel
theorem dX0_reasonOf_19 : decode cX0_reasonOf 19 = .ok (.aload_n 0, 1) := by decide +kernel
theorem dX0_reasonOf_20 : decode cX0_reasonOf 20 = .ok (.invokevirtual 61, 3) := by decide +kernel
theorem dX0_reasonOf_23 : decode cX0_reasonOf 23 = .ok (.fstore 4, 2) := by decide +kernel
theorem dX0_reasonOf_25 : decode cX0_reasonOf 25 = .ok (.fload 4, 2) := by decide +kernel
theorem dX0_reasonOf_27 : decode cX0_reasonOf 27 = .ok (.fconst 0, 1) := by decide +kernel
theorem dX0_reasonOf_28 : decode cX0_reasonOf 28 = .ok (.fcmp .g, 1) := by decide +kernel
theorem dX0_reasonOf_29 : decode cX0_reasonOf 29 = .ok (.ifCond .gt 5, 3) := by decide +kernel
theorem dX0_reasonOf_32 : decode cX0_reasonOf 32 = .ok (.iconst 4, 1) := by decide +kernel
theorem dX0_reasonOf_33 : decode cX0_reasonOf 33 = .ok (.ireturn, 1) := by decide +kernel
theorem dX0_reasonOf_34 : decode cX0_reasonOf 34 = .ok (.aload_n 0, 1) := by decide +kernel
theorem dX0_reasonOf_35 : decode cX0_reasonOf 35 = .ok (.fload 4, 2) := by decide +kernel
theorem dX0_reasonOf_37 : decode cX0_reasonOf 37 = .ok (.invokevirtual 69, 3) := by decide +kernel
theorem dX0_reasonOf_40 : decode cX0_reasonOf 40 = .ok (.iconst 1, 1) := by decide +kernel
theorem dX0_reasonOf_41 : decode cX0_reasonOf 41 = .ok (.if_icmp .ne 5, 3) := by decide +kernel
theorem dX0_reasonOf_44 : decode cX0_reasonOf 44 = .ok (.iconst 0, 1) := by decide +kernel
theorem dX0_reasonOf_45 : decode cX0_reasonOf 45 = .ok (.ireturn, 1) := by decide +kernel
theorem dX0_reasonOf_46 : decode cX0_reasonOf 46 = .ok (.aload_n 0, 1) := by decide +kernel
theorem dX0_reasonOf_47 : decode cX0_reasonOf 47 = .ok (.getfield 9, 3) := by decide +kernel
theorem dX0_reasonOf_50 : decode cX0_reasonOf 50 = .ok (.aload_n 1, 1) := by decide +kernel
theorem dX0_reasonOf_51 : decode cX0_reasonOf 51 = .ok (.getfield 32, 3) := by decide +kernel
theorem dX0_reasonOf_54 : decode cX0_reasonOf 54 = .ok (.iload_n 3, 1) := by decide +kernel
theorem dX0_reasonOf_55 : decode cX0_reasonOf 55 = .ok (.iaload, 1) := by decide +kernel
theorem dX0_reasonOf_56 : decode cX0_reasonOf 56 = .ok (.faload, 1) := by decide +kernel
theorem dX0_reasonOf_57 : decode cX0_reasonOf 57 = .ok (.fload 4, 2) := by decide +kernel
theorem dX0_reasonOf_59 : decode cX0_reasonOf 59 = .ok (.fcmp .l, 1) := by decide +kernel
theorem dX0_reasonOf_60 : decode cX0_reasonOf 60 = .ok (.ifCond .ne 7, 3) := by decide +kernel
theorem dX0_reasonOf_63 : decode cX0_reasonOf 63 = .ok (.iconst 1, 1) := by decide +kernel
theorem dX0_reasonOf_64 : decode cX0_reasonOf 64 = .ok (.goto 4, 3) := by decide +kernel
theorem dX0_reasonOf_67 : decode cX0_reasonOf 67 = .ok (.iconst 2, 1) := by decide +kernel
theorem dX0_reasonOf_68 : decode cX0_reasonOf 68 = .ok (.ireturn, 1) := by decide +kernel
theorem dX0_poll_0 : decode cX0_poll 0 = .ok (.iconst 0, 1) := by decide +kernel
theorem dX0_poll_1 : decode cX0_poll 1 = .ok (.istore_n 2, 1) := by decide +kernel
theorem dX0_poll_2 : decode cX0_poll 2 = .ok (.iload_n 2, 1) := by decide +kernel
theorem dX0_poll_3 : decode cX0_poll 3 = .ok (.bipush 6, 2) := by decide +kernel
theorem dX0_poll_5 : decode cX0_poll 5 = .ok (.if_icmp .ge 21, 3) := by decide +kernel
theorem dX0_poll_8 : decode cX0_poll 8 = .ok (.aload_n 0, 1) := by decide +kernel
theorem dX0_poll_9 : decode cX0_poll 9 = .ok (.getfield 15, 3) := by decide +kernel
theorem dX0_poll_12 : decode cX0_poll 12 = .ok (.iload_n 2, 1) := by decide +kernel
theorem dX0_poll_13 : decode cX0_poll 13 = .ok (.aload_n 0, 1) := by decide +kernel
theorem dX0_poll_14 : decode cX0_poll 14 = .ok (.aload_n 1, 1) := by decide +kernel
theorem dX0_poll_15 : decode cX0_poll 15 = .ok (.iload_n 2, 1) := by decide +kernel
theorem dX0_poll_16 : decode cX0_poll 16 = .ok (.invokevirtual 72, 3) := by decide +kernel
theorem dX0_poll_19 : decode cX0_poll 19 = .ok (.iastore, 1) := by decide +kernel
theorem dX0_poll_20 : decode cX0_poll 20 = .ok (.iinc 2 1, 3) := by decide +kernel
theorem dX0_poll_23 : decode cX0_poll 23 = .ok (.goto (-21), 3) := by decide +kernel
theorem dX0_poll_26 : decode cX0_poll 26 = .ok (.return_, 1) := by decide +kernel
theorem dX0_decide_0 : decode cX0_decide 0 = .ok (.aload_n 0, 1) := by decide +kernel
theorem dX0_decide_1 : decode cX0_decide 1 = .ok (.aload_n 1, 1) := by decide +kernel
theorem dX0_decide_2 : decode cX0_decide 2 = .ok (.invokevirtual 75, 3) := by decide +kernel
theorem dX0_decide_5 : decode cX0_decide 5 = .ok (.aload_n 0, 1) := by decide +kernel
theorem dX0_decide_6 : decode cX0_decide 6 = .ok (.aload_n 1, 1) := by decide +kernel
theorem dX0_decide_7 : decode cX0_decide 7 = .ok (.invokevirtual 79, 3) := by decide +kernel
theorem dX0_decide_10 : decode cX0_decide 10 = .ok (.ireturn, 1) := by decide +kernel
theorem dX0_bySeats_0 : decode cX0_bySeats 0 = .ok (.iconst 0, 1) := by decide +kernel
theorem dX0_bySeats_1 : decode cX0_bySeats 1 = .ok (.istore_n 2, 1) := by decide +kernel
theorem dX0_bySeats_2 : decode cX0_bySeats 2 = .ok (.iload_n 2, 1) := by decide +kernel
theorem dX0_bySeats_3 : decode cX0_bySeats 3 = .ok (.iconst 4, 1) := by decide +kernel
theorem dX0_bySeats_4 : decode cX0_bySeats 4 = .ok (.if_icmp .ge 20, 3) := by decide +kernel
theorem dX0_bySeats_7 : decode cX0_bySeats 7 = .ok (.aload_n 0, 1) := by decide +kernel
theorem dX0_bySeats_8 : decode cX0_bySeats 8 = .ok (.aload_n 1, 1) := by decide +kernel
theorem dX0_bySeats_9 : decode cX0_bySeats 9 = .ok (.iload_n 2, 1) := by decide +kernel
theorem dX0_bySeats_10 : decode cX0_bySeats 10 = .ok (.invokevirtual 83, 3) := by decide +kernel
theorem dX0_bySeats_13 : decode cX0_bySeats 13 = .ok (.ifCond .eq 5, 3) := by decide +kernel
theorem dX0_bySeats_16 : decode cX0_bySeats 16 = .ok (.iload_n 2, 1) := by decide +kernel
theorem dX0_bySeats_17 : decode cX0_bySeats 17 = .ok (.ireturn, 1) := by decide +kernel
theorem dX0_bySeats_18 : decode cX0_bySeats 18 = .ok (.iinc 2 1, 3) := by decide +kernel
theorem dX0_bySeats_21 : decode cX0_bySeats 21 = .ok (.goto (-19), 3) := by decide +kernel
theorem dX0_bySeats_24 : decode cX0_bySeats 24 = .ok (.bipush (-5), 2) := by decide +kernel
theorem dX0_bySeats_26 : decode cX0_bySeats 26 = .ok (.ireturn, 1) := by decide +kernel
theorem dX0_decideByPairs_0 : decode cX0_decideByPairs 0 = .ok (.aload_n 0, 1) := by decide +kernel
theorem dX0_decideByPairs_1 : decode cX0_decideByPairs 1 = .ok (.aload_n 1, 1) := by decide +kernel
theorem dX0_decideByPairs_2 : decode cX0_decideByPairs 2 = .ok (.invokevirtual 75, 3) := by decide +kernel
theorem dX0_decideByPairs_5 : decode cX0_decideByPairs 5 = .ok (.aload_n 0, 1) := by decide +kernel
theorem dX0_decideByPairs_6 : decode cX0_decideByPairs 6 = .ok (.aload_n 1, 1) := by decide +kernel
theorem dX0_decideByPairs_7 : decode cX0_decideByPairs 7 = .ok (.invokevirtual 87, 3) := by decide +kernel
theorem dX0_decideByPairs_10 : decode cX0_decideByPairs 10 = .ok (.istore_n 2, 1) := by decide +kernel
theorem dX0_decideByPairs_11 : decode cX0_decideByPairs 11 = .ok (.iload_n 2, 1) := by decide +kernel
theorem dX0_decideByPairs_12 : decode cX0_decideByPairs 12 = .ok (.invokestatic 90, 3) := by decide +kernel
theorem dX0_decideByPairs_15 : decode cX0_decideByPairs 15 = .ok (.ifCond .eq 16, 3) := by decide +kernel
theorem dX0_decideByPairs_18 : decode cX0_decideByPairs 18 = .ok (.aload_n 0, 1) := by decide +kernel
theorem dX0_decideByPairs_19 : decode cX0_decideByPairs 19 = .ok (.aload_n 1, 1) := by decide +kernel
theorem dX0_decideByPairs_20 : decode cX0_decideByPairs 20 = .ok (.iload_n 2, 1) := by decide +kernel
theorem dX0_decideByPairs_21 : decode cX0_decideByPairs 21 = .ok (.invokevirtual 83, 3) := by decide +kernel
theorem dX0_decideByPairs_24 : decode cX0_decideByPairs 24 = .ok (.ifCond .eq 7, 3) := by decide +kernel
theorem dX0_decideByPairs_27 : decode cX0_decideByPairs 27 = .ok (.iload_n 2, 1) := by decide +kernel
theorem dX0_decideByPairs_28 : decode cX0_decideByPairs 28 = .ok (.goto 5, 3) := by decide +kernel
theorem dX0_decideByPairs_31 : decode cX0_decideByPairs 31 = .ok (.bipush (-5), 2) := by decide +kernel
theorem dX0_decideByPairs_33 : decode cX0_decideByPairs 33 = .ok (.ireturn, 1) := by decide +kernel
theorem dX0_leftByPairs_0 : decode cX0_leftByPairs 0 = .ok (.bipush (-5), 2) := by decide +kernel
theorem dX0_leftByPairs_2 : decode cX0_leftByPairs 2 = .ok (.istore_n 2, 1) := by decide +kernel
theorem dX0_leftByPairs_3 : decode cX0_leftByPairs 3 = .ok (.iconst 0, 1) := by decide +kernel
theorem dX0_leftByPairs_4 : decode cX0_leftByPairs 4 = .ok (.istore_n 3, 1) := by decide +kernel
theorem dX0_leftByPairs_5 : decode cX0_leftByPairs 5 = .ok (.iconst 0, 1) := by decide +kernel
theorem dX0_leftByPairs_6 : decode cX0_leftByPairs 6 = .ok (.istore 4, 2) := by decide +kernel
theorem dX0_leftByPairs_8 : decode cX0_leftByPairs 8 = .ok (.iload 4, 2) := by decide +kernel
theorem dX0_leftByPairs_10 : decode cX0_leftByPairs 10 = .ok (.bipush 6, 2) := by decide +kernel
theorem dX0_leftByPairs_12 : decode cX0_leftByPairs 12 = .ok (.if_icmp .ge 64, 3) := by decide +kernel
theorem dX0_leftByPairs_15 : decode cX0_leftByPairs 15 = .ok (.aload_n 0, 1) := by decide +kernel
theorem dX0_leftByPairs_16 : decode cX0_leftByPairs 16 = .ok (.getfield 15, 3) := by decide +kernel
theorem dX0_leftByPairs_19 : decode cX0_leftByPairs 19 = .ok (.iload 4, 2) := by decide +kernel
theorem dX0_leftByPairs_21 : decode cX0_leftByPairs 21 = .ok (.iaload, 1) := by decide +kernel
theorem dX0_leftByPairs_22 : decode cX0_leftByPairs 22 = .ok (.istore 5, 2) := by decide +kernel
theorem dX0_leftByPairs_24 : decode cX0_leftByPairs 24 = .ok (.iload 5, 2) := by decide +kernel
theorem dX0_leftByPairs_26 : decode cX0_leftByPairs 26 = .ok (.invokestatic 90, 3) := by decide +kernel
theorem dX0_leftByPairs_29 : decode cX0_leftByPairs 29 = .ok (.ifCond .eq 31, 3) := by decide +kernel
theorem dX0_leftByPairs_32 : decode cX0_leftByPairs 32 = .ok (.iload 5, 2) := by decide +kernel
theorem dX0_leftByPairs_34 : decode cX0_leftByPairs 34 = .ok (.iload_n 2, 1) := by decide +kernel
theorem dX0_leftByPairs_35 : decode cX0_leftByPairs 35 = .ok (.if_icmp .ne 15, 3) := by decide +kernel
theorem dX0_leftByPairs_38 : decode cX0_leftByPairs 38 = .ok (.iload_n 3, 1) := by decide +kernel
theorem dX0_leftByPairs_39 : decode cX0_leftByPairs 39 = .ok (.aload_n 1, 1) := by decide +kernel
theorem dX0_leftByPairs_40 : decode cX0_leftByPairs 40 = .ok (.getfield 94, 3) := by decide +kernel
theorem dX0_leftByPairs_43 : decode cX0_leftByPairs 43 = .ok (.iload 4, 2) := by decide +kernel
theorem dX0_leftByPairs_45 : decode cX0_leftByPairs 45 = .ok (.iaload, 1) := by decide +kernel
theorem dX0_leftByPairs_46 : decode cX0_leftByPairs 46 = .ok (.iadd, 1) := by decide +kernel
theorem dX0_leftByPairs_47 : decode cX0_leftByPairs 47 = .ok (.goto 12, 3) := by decide +kernel
theorem dX0_leftByPairs_50 : decode cX0_leftByPairs 50 = .ok (.iload_n 3, 1) := by decide +kernel
theorem dX0_leftByPairs_51 : decode cX0_leftByPairs 51 = .ok (.aload_n 1, 1) := by decide +kernel
theorem dX0_leftByPairs_52 : decode cX0_leftByPairs 52 = .ok (.getfield 94, 3) := by decide +kernel
theorem dX0_leftByPairs_55 : decode cX0_leftByPairs 55 = .ok (.iload 4, 2) := by decide +kernel
theorem dX0_leftByPairs_57 : decode cX0_leftByPairs 57 = .ok (.iaload, 1) := by decide +kernel
theorem dX0_leftByPairs_58 : decode cX0_leftByPairs 58 = .ok (.isub, 1) := by decide +kernel
theorem dX0_leftByPairs_59 : decode cX0_leftByPairs 59 = .ok (.istore_n 3, 1) := by decide +kernel
theorem dX0_leftByPairs_60 : decode cX0_leftByPairs 60 = .ok (.iload_n 3, 1) := by decide +kernel
theorem dX0_leftByPairs_61 : decode cX0_leftByPairs 61 = .ok (.ifCond .ge 9, 3) := by decide +kernel
theorem dX0_leftByPairs_64 : decode cX0_leftByPairs 64 = .ok (.iload 5, 2) := by decide +kernel
theorem dX0_leftByPairs_66 : decode cX0_leftByPairs 66 = .ok (.istore_n 2, 1) := by decide +kernel
theorem dX0_leftByPairs_67 : decode cX0_leftByPairs 67 = .ok (.iload_n 3, 1) := by decide +kernel
theorem dX0_leftByPairs_68 : decode cX0_leftByPairs 68 = .ok (.ineg, 1) := by decide +kernel
theorem dX0_leftByPairs_69 : decode cX0_leftByPairs 69 = .ok (.istore_n 3, 1) := by decide +kernel
theorem dX0_leftByPairs_70 : decode cX0_leftByPairs 70 = .ok (.iinc 4 1, 3) := by decide +kernel
theorem dX0_leftByPairs_73 : decode cX0_leftByPairs 73 = .ok (.goto (-65), 3) := by decide +kernel
theorem dX0_leftByPairs_76 : decode cX0_leftByPairs 76 = .ok (.iload_n 2, 1) := by decide +kernel
theorem dX0_leftByPairs_77 : decode cX0_leftByPairs 77 = .ok (.ireturn, 1) := by decide +kernel
theorem dX0_hasMajority_0 : decode cX0_hasMajority 0 = .ok (.iconst 0, 1) := by decide +kernel
theorem dX0_hasMajority_1 : decode cX0_hasMajority 1 = .ok (.istore_n 3, 1) := by decide +kernel
theorem dX0_hasMajority_2 : decode cX0_hasMajority 2 = .ok (.iconst 0, 1) := by decide +kernel
theorem dX0_hasMajority_3 : decode cX0_hasMajority 3 = .ok (.istore 4, 2) := by decide +kernel
theorem dX0_hasMajority_5 : decode cX0_hasMajority 5 = .ok (.iload 4, 2) := by decide +kernel
theorem dX0_hasMajority_7 : decode cX0_hasMajority 7 = .ok (.bipush 6, 2) := by decide +kernel
theorem dX0_hasMajority_9 : decode cX0_hasMajority 9 = .ok (.if_icmp .ge 30, 3) := by decide +kernel
theorem dX0_hasMajority_12 : decode cX0_hasMajority 12 = .ok (.aload_n 0, 1) := by decide +kernel
theorem dX0_hasMajority_13 : decode cX0_hasMajority 13 = .ok (.getfield 15, 3) := by decide +kernel
theorem dX0_hasMajority_16 : decode cX0_hasMajority 16 = .ok (.iload 4, 2) := by decide +kernel
theorem dX0_hasMajority_18 : decode cX0_hasMajority 18 = .ok (.iaload, 1) := by decide +kernel
theorem dX0_hasMajority_19 : decode cX0_hasMajority 19 = .ok (.iload_n 2, 1) := by decide +kernel
theorem dX0_hasMajority_20 : decode cX0_hasMajority 20 = .ok (.if_icmp .ne 13, 3) := by decide +kernel
theorem dX0_hasMajority_23 : decode cX0_hasMajority 23 = .ok (.iload_n 3, 1) := by decide +kernel
theorem dX0_hasMajority_24 : decode cX0_hasMajority 24 = .ok (.aload_n 1, 1) := by decide +kernel
theorem dX0_hasMajority_25 : decode cX0_hasMajority 25 = .ok (.getfield 94, 3) := by decide +kernel
theorem dX0_hasMajority_28 : decode cX0_hasMajority 28 = .ok (.iload 4, 2) := by decide +kernel
theorem dX0_hasMajority_30 : decode cX0_hasMajority 30 = .ok (.iaload, 1) := by decide +kernel
theorem dX0_hasMajority_31 : decode cX0_hasMajority 31 = .ok (.iadd, 1) := by decide +kernel
theorem dX0_hasMajority_32 : decode cX0_hasMajority 32 = .ok (.istore_n 3, 1) := by decide +kernel
theorem dX0_hasMajority_33 : decode cX0_hasMajority 33 = .ok (.iinc 4 1, 3) := by decide +kernel
theorem dX0_hasMajority_36 : decode cX0_hasMajority 36 = .ok (.goto (-31), 3) := by decide +kernel
theorem dX0_hasMajority_39 : decode cX0_hasMajority 39 = .ok (.iconst 2, 1) := by decide +kernel
theorem dX0_hasMajority_40 : decode cX0_hasMajority 40 = .ok (.iload_n 3, 1) := by decide +kernel
theorem dX0_hasMajority_41 : decode cX0_hasMajority 41 = .ok (.imul, 1) := by decide +kernel
theorem dX0_hasMajority_42 : decode cX0_hasMajority 42 = .ok (.aload_n 1, 1) := by decide +kernel
theorem dX0_hasMajority_43 : decode cX0_hasMajority 43 = .ok (.getfield 94, 3) := by decide +kernel
theorem dX0_hasMajority_46 : decode cX0_hasMajority 46 = .ok (.invokestatic 97, 3) := by decide +kernel
theorem dX0_hasMajority_49 : decode cX0_hasMajority 49 = .ok (.if_icmp .le 7, 3) := by decide +kernel
theorem dX0_hasMajority_52 : decode cX0_hasMajority 52 = .ok (.iconst 1, 1) := by decide +kernel
theorem dX0_hasMajority_53 : decode cX0_hasMajority 53 = .ok (.goto 4, 3) := by decide +kernel
theorem dX0_hasMajority_56 : decode cX0_hasMajority 56 = .ok (.iconst 0, 1) := by decide +kernel
theorem dX0_hasMajority_57 : decode cX0_hasMajority 57 = .ok (.ireturn, 1) := by decide +kernel
theorem dX1_init_0 : decode cX1_init 0 = .ok (.aload_n 0, 1) := by decide +kernel
theorem dX1_init_1 : decode cX1_init 1 = .ok (.invokespecial 3, 3) := by decide +kernel
theorem dX1_init_4 : decode cX1_init 4 = .ok (.aload_n 0, 1) := by decide +kernel
theorem dX1_init_5 : decode cX1_init 5 = .ok (.bipush 12, 2) := by decide +kernel
theorem dX1_init_7 : decode cX1_init 7 = .ok (.newarray .int, 2) := by decide +kernel
theorem dX1_init_9 : decode cX1_init 9 = .ok (.putfield 9, 3) := by decide +kernel
theorem dX1_init_12 : decode cX1_init 12 = .ok (.aload_n 0, 1) := by decide +kernel
theorem dX1_init_13 : decode cX1_init 13 = .ok (.bipush 12, 2) := by decide +kernel
theorem dX1_init_15 : decode cX1_init 15 = .ok (.newarray .int, 2) := by decide +kernel
theorem dX1_init_17 : decode cX1_init 17 = .ok (.putfield 15, 3) := by decide +kernel
theorem dX1_init_20 : decode cX1_init 20 = .ok (.aload_n 0, 1) := by decide +kernel
theorem dX1_init_21 : decode cX1_init 21 = .ok (.bipush 12, 2) := by decide +kernel
theorem dX1_init_23 : decode cX1_init 23 = .ok (.newarray .int, 2) := by decide +kernel
theorem dX1_init_25 : decode cX1_init 25 = .ok (.putfield 18, 3) := by decide +kernel
theorem dX1_init_28 : decode cX1_init 28 = .ok (.aload_n 0, 1) := by decide +kernel
theorem dX1_init_29 : decode cX1_init 29 = .ok (.bipush 12, 2) := by decide +kernel
theorem dX1_init_31 : decode cX1_init 31 = .ok (.newarray .int, 2) := by decide +kernel
theorem dX1_init_33 : decode cX1_init 33 = .ok (.putfield 21, 3) := by decide +kernel
theorem dX1_init_36 : decode cX1_init 36 = .ok (.aload_n 0, 1) := by decide +kernel
theorem dX1_init_37 : decode cX1_init 37 = .ok (.bipush 12, 2) := by decide +kernel
theorem dX1_init_39 : decode cX1_init 39 = .ok (.newarray .int, 2) := by decide +kernel
theorem dX1_init_41 : decode cX1_init 41 = .ok (.putfield 24, 3) := by decide +kernel
theorem dX1_init_44 : decode cX1_init 44 = .ok (.aload_n 0, 1) := by decide +kernel
theorem dX1_init_45 : decode cX1_init 45 = .ok (.bipush 12, 2) := by decide +kernel
theorem dX1_init_47 : decode cX1_init 47 = .ok (.newarray .int, 2) := by decide +kernel
theorem dX1_init_49 : decode cX1_init 49 = .ok (.putfield 27, 3) := by decide +kernel
theorem dX1_init_52 : decode cX1_init 52 = .ok (.aload_n 0, 1) := by decide +kernel
theorem dX1_init_53 : decode cX1_init 53 = .ok (.bipush 12, 2) := by decide +kernel
theorem dX1_init_55 : decode cX1_init 55 = .ok (.newarray .int, 2) := by decide +kernel
theorem dX1_init_57 : decode cX1_init 57 = .ok (.putfield 30, 3) := by decide +kernel
theorem dX1_init_60 : decode cX1_init 60 = .ok (.aload_n 0, 1) := by decide +kernel
theorem dX1_init_61 : decode cX1_init 61 = .ok (.bipush 48, 2) := by decide +kernel
theorem dX1_init_63 : decode cX1_init 63 = .ok (.newarray .int, 2) := by decide +kernel
theorem dX1_init_65 : decode cX1_init 65 = .ok (.putfield 33, 3) := by decide +kernel
theorem dX1_init_68 : decode cX1_init 68 = .ok (.aload_n 0, 1) := by decide +kernel
theorem dX1_init_69 : decode cX1_init 69 = .ok (.bipush 6, 2) := by decide +kernel
theorem dX1_init_71 : decode cX1_init 71 = .ok (.newarray .int, 2) := by decide +kernel
theorem dX1_init_73 : decode cX1_init 73 = .ok (.putfield 36, 3) := by decide +kernel
theorem dX1_init_76 : decode cX1_init 76 = .ok (.aload_n 0, 1) := by decide +kernel
theorem dX1_init_77 : decode cX1_init 77 = .ok (.iconst 2, 1) := by decide +kernel
theorem dX1_init_78 : decode cX1_init 78 = .ok (.newarray .int, 2) := by decide +kernel
theorem dX1_init_80 : decode cX1_init 80 = .ok (.putfield 39, 3) := by decide +kernel
theorem dX1_init_83 : decode cX1_init 83 = .ok (.aload_n 0, 1) := by decide +kernel
theorem dX1_init_84 : decode cX1_init 84 = .ok (.sipush 640, 3) := by decide +kernel
theorem dX1_init_87 : decode cX1_init 87 = .ok (.putfield 42, 3) := by decide +kernel
theorem dX1_init_90 : decode cX1_init 90 = .ok (.aload_n 0, 1) := by decide +kernel
theorem dX1_init_91 : decode cX1_init 91 = .ok (.bipush (-5), 2) := by decide +kernel
theorem dX1_init_93 : decode cX1_init 93 = .ok (.putfield 46, 3) := by decide +kernel
theorem dX1_init_96 : decode cX1_init 96 = .ok (.iconst 0, 1) := by decide +kernel
theorem dX1_init_97 : decode cX1_init 97 = .ok (.istore_n 1, 1) := by decide +kernel
theorem dX1_init_98 : decode cX1_init 98 = .ok (.iload_n 1, 1) := by decide +kernel
theorem dX1_init_99 : decode cX1_init 99 = .ok (.bipush 6, 2) := by decide +kernel
theorem dX1_init_101 : decode cX1_init 101 = .ok (.if_icmp .ge 16, 3) := by decide +kernel
theorem dX1_init_104 : decode cX1_init 104 = .ok (.aload_n 0, 1) := by decide +kernel
theorem dX1_init_105 : decode cX1_init 105 = .ok (.getfield 36, 3) := by decide +kernel
theorem dX1_init_108 : decode cX1_init 108 = .ok (.iload_n 1, 1) := by decide +kernel
theorem dX1_init_109 : decode cX1_init 109 = .ok (.iconst 1, 1) := by decide +kernel
theorem dX1_init_110 : decode cX1_init 110 = .ok (.iastore, 1) := by decide +kernel
theorem dX1_init_111 : decode cX1_init 111 = .ok (.iinc 1 1, 3) := by decide +kernel
theorem dX1_init_114 : decode cX1_init 114 = .ok (.goto (-16), 3) := by decide +kernel
theorem dX1_init_117 : decode cX1_init 117 = .ok (.aload_n 0, 1) := by decide +kernel
theorem dX1_init_118 : decode cX1_init 118 = .ok (.getfield 39, 3) := by decide +kernel
theorem dX1_init_121 : decode cX1_init 121 = .ok (.iconst 1, 1) := by decide +kernel
theorem dX1_init_122 : decode cX1_init 122 = .ok (.iconst 2, 1) := by decide +kernel
theorem dX1_init_123 : decode cX1_init 123 = .ok (.iastore, 1) := by decide +kernel
theorem dX1_init_124 : decode cX1_init 124 = .ok (.return_, 1) := by decide +kernel
theorem dX1_become_0 : decode cX1_become 0 = .ok (.aload_n 1, 1) := by decide +kernel
theorem dX1_become_1 : decode cX1_become 1 = .ok (.getfield 9, 3) := by decide +kernel
theorem dX1_become_4 : decode cX1_become 4 = .ok (.aload_n 0, 1) := by decide +kernel
theorem dX1_become_5 : decode cX1_become 5 = .ok (.getfield 9, 3) := by decide +kernel
theorem dX1_become_8 : decode cX1_become 8 = .ok (.invokestatic 49, 3) := by decide +kernel
theorem dX1_become_11 : decode cX1_become 11 = .ok (.aload_n 1, 1) := by decide +kernel
theorem dX1_become_12 : decode cX1_become 12 = .ok (.getfield 15, 3) := by decide +kernel
theorem dX1_become_15 : decode cX1_become 15 = .ok (.aload_n 0, 1) := by decide +kernel
theorem dX1_become_16 : decode cX1_become 16 = .ok (.getfield 15, 3) := by decide +kernel
theorem dX1_become_19 : decode cX1_become 19 = .ok (.invokestatic 49, 3) := by decide +kernel
theorem dX1_become_22 : decode cX1_become 22 = .ok (.aload_n 1, 1) := by decide +kernel
theorem dX1_become_23 : decode cX1_become 23 = .ok (.getfield 18, 3) := by decide +kernel
theorem dX1_become_26 : decode cX1_become 26 = .ok (.aload_n 0, 1) := by decide +kernel
theorem dX1_become_27 : decode cX1_become 27 = .ok (.getfield 18, 3) := by decide +kernel
theorem dX1_become_30 : decode cX1_become 30 = .ok (.invokestatic 49, 3) := by decide +kernel
theorem dX1_become_33 : decode cX1_become 33 = .ok (.aload_n 1, 1) := by decide +kernel
theorem dX1_become_34 : decode cX1_become 34 = .ok (.getfield 21, 3) := by decide +kernel
theorem dX1_become_37 : decode cX1_become 37 = .ok (.aload_n 0, 1) := by decide +kernel
theorem dX1_become_38 : decode cX1_become 38 = .ok (.getfield 21, 3) := by decide +kernel
theorem dX1_become_41 : decode cX1_become 41 = .ok (.invokestatic 49, 3) := by decide +kernel
theorem dX1_become_44 : decode cX1_become 44 = .ok (.aload_n 1, 1) := by decide +kernel
theorem dX1_become_45 : decode cX1_become 45 = .ok (.getfield 24, 3) := by decide +kernel
theorem dX1_become_48 : decode cX1_become 48 = .ok (.aload_n 0, 1) := by decide +kernel
theorem dX1_become_49 : decode cX1_become 49 = .ok (.getfield 24, 3) := by decide +kernel
theorem dX1_become_52 : decode cX1_become 52 = .ok (.invokestatic 49, 3) := by decide +kernel
theorem dX1_become_55 : decode cX1_become 55 = .ok (.aload_n 1, 1) := by decide +kernel
theorem dX1_become_56 : decode cX1_become 56 = .ok (.getfield 27, 3) := by decide +kernel
theorem dX1_become_59 : decode cX1_become 59 = .ok (.aload_n 0, 1) := by decide +kernel
theorem dX1_become_60 : decode cX1_become 60 = .ok (.getfield 27, 3) := by decide +kernel
theorem dX1_become_63 : decode cX1_become 63 = .ok (.invokestatic 49, 3) := by decide +kernel
theorem dX1_become_66 : decode cX1_become 66 = .ok (.aload_n 1, 1) := by decide +kernel
theorem dX1_become_67 : decode cX1_become 67 = .ok (.getfield 30, 3) := by decide +kernel
theorem dX1_become_70 : decode cX1_become 70 = .ok (.aload_n 0, 1) := by decide +kernel
theorem dX1_become_71 : decode cX1_become 71 = .ok (.getfield 30, 3) := by decide +kernel
theorem dX1_become_74 : decode cX1_become 74 = .ok (.invokestatic 49, 3) := by decide +kernel
theorem dX1_become_77 : decode cX1_become 77 = .ok (.aload_n 1, 1) := by decide +kernel
theorem dX1_become_78 : decode cX1_become 78 = .ok (.getfield 33, 3) := by decide +kernel
theorem dX1_become_81 : decode cX1_become 81 = .ok (.aload_n 0, 1) := by decide +kernel
theorem dX1_become_82 : decode cX1_become 82 = .ok (.getfield 33, 3) := by decide +kernel
theorem dX1_become_85 : decode cX1_become 85 = .ok (.invokestatic 49, 3) := by decide +kernel
theorem dX1_become_88 : decode cX1_become 88 = .ok (.aload_n 1, 1) := by decide +kernel
theorem dX1_become_89 : decode cX1_become 89 = .ok (.getfield 36, 3) := by decide +kernel
theorem dX1_become_92 : decode cX1_become 92 = .ok (.aload_n 0, 1) := by decide +kernel
theorem dX1_become_93 : decode cX1_become 93 = .ok (.getfield 36, 3) := by decide +kernel
theorem dX1_become_96 : decode cX1_become 96 = .ok (.invokestatic 49, 3) := by decide +kernel
theorem dX1_become_99 : decode cX1_become 99 = .ok (.aload_n 1, 1) := by decide +kernel
theorem dX1_become_100 : decode cX1_become 100 = .ok (.getfield 39, 3) := by decide +kernel
theorem dX1_become_103 : decode cX1_become 103 = .ok (.aload_n 0, 1) := by decide +kernel
theorem dX1_become_104 : decode cX1_become 104 = .ok (.getfield 39, 3) := by decide +kernel
theorem dX1_become_107 : decode cX1_become 107 = .ok (.invokestatic 49, 3) := by decide +kernel
theorem dX1_become_110 : decode cX1_become 110 = .ok (.aload_n 0, 1) := by decide +kernel
theorem dX1_become_111 : decode cX1_become 111 = .ok (.aload_n 1, 1) := by decide +kernel
theorem dX1_become_112 : decode cX1_become 112 = .ok (.getfield 53, 3) := by decide +kernel
theorem dX1_become_115 : decode cX1_become 115 = .ok (.putfield 53, 3) := by decide +kernel
theorem dX1_become_118 : decode cX1_become 118 = .ok (.aload_n 0, 1) := by decide +kernel
theorem dX1_become_119 : decode cX1_become 119 = .ok (.aload_n 1, 1) := by decide +kernel
theorem dX1_become_120 : decode cX1_become 120 = .ok (.getfield 56, 3) := by decide +kernel
theorem dX1_become_123 : decode cX1_become 123 = .ok (.putfield 56, 3) := by decide +kernel
theorem dX1_become_126 : decode cX1_become 126 = .ok (.aload_n 0, 1) := by decide +kernel
theorem dX1_become_127 : decode cX1_become 127 = .ok (.aload_n 1, 1) := by decide +kernel
theorem dX1_become_128 : decode cX1_become 128 = .ok (.getfield 59, 3) := by decide +kernel
theorem dX1_become_131 : decode cX1_become 131 = .ok (.putfield 59, 3) := by decide +kernel
theorem dX1_become_134 : decode cX1_become 134 = .ok (.aload_n 0, 1) := by decide +kernel
theorem dX1_become_135 : decode cX1_become 135 = .ok (.aload_n 1, 1) := by decide +kernel
theorem dX1_become_136 : decode cX1_become 136 = .ok (.getfield 42, 3) := by decide +kernel
theorem dX1_become_139 : decode cX1_become 139 = .ok (.putfield 42, 3) := by decide +kernel
theorem dX1_become_142 : decode cX1_become 142 = .ok (.aload_n 0, 1) := by decide +kernel
theorem dX1_become_143 : decode cX1_become 143 = .ok (.aload_n 1, 1) := by decide +kernel
theorem dX1_become_144 : decode cX1_become 144 = .ok (.getfield 62, 3) := by decide +kernel
theorem dX1_become_147 : decode cX1_become 147 = .ok (.putfield 62, 3) := by decide +kernel
theorem dX1_become_150 : decode cX1_become 150 = .ok (.aload_n 0, 1) := by decide +kernel
theorem dX1_become_151 : decode cX1_become 151 = .ok (.aload_n 1, 1) := by decide +kernel
theorem dX1_become_152 : decode cX1_become 152 = .ok (.getfield 65, 3) := by decide +kernel
theorem dX1_become_155 : decode cX1_become 155 = .ok (.putfield 65, 3) := by decide +kernel
theorem dX1_become_158 : decode cX1_become 158 = .ok (.aload_n 0, 1) := by decide +kernel
theorem dX1_become_159 : decode cX1_become 159 = .ok (.aload_n 1, 1) := by decide +kernel
theorem dX1_become_160 : decode cX1_become 160 = .ok (.getfield 46, 3) := by decide +kernel
theorem dX1_become_163 : decode cX1_become 163 = .ok (.putfield 46, 3) := by decide +kernel
theorem dX1_become_166 : decode cX1_become 166 = .ok (.return_, 1) := by decide +kernel
theorem dX1_raise_0 : decode cX1_raise 0 = .ok (.iload_n 1, 1) := by decide +kernel
theorem dX1_raise_1 : decode cX1_raise 1 = .ok (.invokestatic 68, 3) := by decide +kernel
theorem dX1_raise_4 : decode cX1_raise 4 = .ok (.ifCond .eq 11, 3) := by decide +kernel
theorem dX1_raise_7 : decode cX1_raise 7 = .ok (.iload 4, 2) := by decide +kernel
theorem dX1_raise_9 : decode cX1_raise 9 = .ok (.invokestatic 72, 3) := by decide +kernel
theorem dX1_raise_12 : decode cX1_raise 12 = .ok (.ifCond .ne 5, 3) := by decide +kernel
theorem dX1_raise_15 : decode cX1_raise 15 = .ok (.iconst (-1), 1) := by decide +kernel
theorem dX1_raise_16 : decode cX1_raise 16 = .ok (.ireturn, 1) := by decide +kernel
theorem dX1_raise_17 : decode cX1_raise 17 = .ok (.iload_n 2, 1) := by decide +kernel
theorem dX1_raise_18 : decode cX1_raise 18 = .ok (.iconst 1, 1) := by decide +kernel
theorem dX1_raise_19 : decode cX1_raise 19 = .ok (.iconst 5, 1) := by decide +kernel
theorem dX1_raise_20 : decode cX1_raise 20 = .ok (.invokestatic 75, 3) := by decide +kernel
theorem dX1_raise_23 : decode cX1_raise 23 = .ok (.ifCond .eq 13, 3) := by decide +kernel
theorem dX1_raise_26 : decode cX1_raise 26 = .ok (.iload_n 3, 1) := by decide +kernel
theorem dX1_raise_27 : decode cX1_raise 27 = .ok (.iconst 1, 1) := by decide +kernel
theorem dX1_raise_28 : decode cX1_raise 28 = .ok (.bipush 9, 2) := by decide +kernel
theorem dX1_raise_30 : decode cX1_raise 30 = .ok (.invokestatic 75, 3) := by decide +kernel
theorem dX1_raise_33 : decode cX1_raise 33 = .ok (.ifCond .ne 6, 3) := by decide +kernel
theorem dX1_raise_36 : decode cX1_raise 36 = .ok (.bipush (-2), 2) := by decide +kernel
theorem dX1_raise_38 : decode cX1_raise 38 = .ok (.ireturn, 1) := by decide +kernel
theorem dX1_raise_39 : decode cX1_raise 39 = .ok (.aload_n 0, 1) := by decide +kernel
theorem dX1_raise_40 : decode cX1_raise 40 = .ok (.getfield 53, 3) := by decide +kernel
theorem dX1_raise_43 : decode cX1_raise 43 = .ok (.bipush 12, 2) := by decide +kernel
theorem dX1_raise_45 : decode cX1_raise 45 = .ok (.if_icmp .lt 6, 3) := by decide +kernel
theorem dX1_raise_48 : decode cX1_raise 48 = .ok (.bipush (-3), 2) := by decide +kernel
theorem dX1_raise_50 : decode cX1_raise 50 = .ok (.ireturn, 1) := by decide +kernel
theorem dX1_raise_51 : decode cX1_raise 51 = .ok (.aload_n 0, 1) := by decide +kernel
theorem dX1_raise_52 : decode cX1_raise 52 = .ok (.getfield 53, 3) := by decide +kernel
theorem dX1_raise_55 : decode cX1_raise 55 = .ok (.istore 5, 2) := by decide +kernel
theorem dX1_raise_57 : decode cX1_raise 57 = .ok (.aload_n 0, 1) := by decide +kernel
theorem dX1_raise_58 : decode cX1_raise 58 = .ok (.getfield 9, 3) := by decide +kernel
theorem dX1_raise_61 : decode cX1_raise 61 = .ok (.iload 5, 2) := by decide +kernel
theorem dX1_raise_63 : decode cX1_raise 63 = .ok (.iload_n 1, 1) := by decide +kernel
theorem dX1_raise_64 : decode cX1_raise 64 = .ok (.iastore, 1) := by decide +kernel
theorem dX1_raise_65 : decode cX1_raise 65 = .ok (.aload_n 0, 1) := by decide +kernel
theorem dX1_raise_66 : decode cX1_raise 66 = .ok (.getfield 15, 3) := by decide +kernel
theorem dX1_raise_69 : decode cX1_raise 69 = .ok (.iload 5, 2) := by decide +kernel
theorem dX1_raise_71 : decode cX1_raise 71 = .ok (.iload_n 2, 1) := by decide +kernel
theorem dX1_raise_72 : decode cX1_raise 72 = .ok (.iastore, 1) := by decide +kernel
theorem dX1_raise_73 : decode cX1_raise 73 = .ok (.aload_n 0, 1) := by decide +kernel
theorem dX1_raise_74 : decode cX1_raise 74 = .ok (.getfield 18, 3) := by decide +kernel
theorem dX1_raise_77 : decode cX1_raise 77 = .ok (.iload 5, 2) := by decide +kernel
theorem dX1_raise_79 : decode cX1_raise 79 = .ok (.iload_n 3, 1) := by decide +kernel
theorem dX1_raise_80 : decode cX1_raise 80 = .ok (.iastore, 1) := by decide +kernel
theorem dX1_raise_81 : decode cX1_raise 81 = .ok (.aload_n 0, 1) := by decide +kernel
theorem dX1_raise_82 : decode cX1_raise 82 = .ok (.getfield 21, 3) := by decide +kernel
theorem dX1_raise_85 : decode cX1_raise 85 = .ok (.iload 5, 2) := by decide +kernel
theorem dX1_raise_87 : decode cX1_raise 87 = .ok (.iload 4, 2) := by decide +kernel
theorem dX1_raise_89 : decode cX1_raise 89 = .ok (.iastore, 1) := by decide +kernel
theorem dX1_raise_90 : decode cX1_raise 90 = .ok (.aload_n 0, 1) := by decide +kernel
theorem dX1_raise_91 : decode cX1_raise 91 = .ok (.getfield 24, 3) := by decide +kernel
theorem dX1_raise_94 : decode cX1_raise 94 = .ok (.iload 5, 2) := by decide +kernel
theorem dX1_raise_96 : decode cX1_raise 96 = .ok (.bipush 64, 2) := by decide +kernel
theorem dX1_raise_98 : decode cX1_raise 98 = .ok (.iastore, 1) := by decide +kernel
theorem dX1_raise_99 : decode cX1_raise 99 = .ok (.aload_n 0, 1) := by decide +kernel
theorem dX1_raise_100 : decode cX1_raise 100 = .ok (.dup, 1) := by decide +kernel
theorem dX1_raise_101 : decode cX1_raise 101 = .ok (.getfield 53, 3) := by decide +kernel
theorem dX1_raise_104 : decode cX1_raise 104 = .ok (.iconst 1, 1) := by decide +kernel
theorem dX1_raise_105 : decode cX1_raise 105 = .ok (.iadd, 1) := by decide +kernel
theorem dX1_raise_106 : decode cX1_raise 106 = .ok (.putfield 53, 3) := by decide +kernel
theorem dX1_raise_109 : decode cX1_raise 109 = .ok (.iload 5, 2) := by decide +kernel
theorem dX1_raise_111 : decode cX1_raise 111 = .ok (.ireturn, 1) := by decide +kernel
theorem dX1_bring_0 : decode cX1_bring 0 = .ok (.aload_n 0, 1) := by decide +kernel
theorem dX1_bring_1 : decode cX1_bring 1 = .ok (.iload_n 1, 1) := by decide +kernel
theorem dX1_bring_2 : decode cX1_bring 2 = .ok (.invokevirtual 79, 3) := by decide +kernel
theorem dX1_bring_5 : decode cX1_bring 5 = .ok (.ifCond .eq 10, 3) := by decide +kernel
theorem dX1_bring_8 : decode cX1_bring 8 = .ok (.iload_n 2, 1) := by decide +kernel
theorem dX1_bring_9 : decode cX1_bring 9 = .ok (.invokestatic 68, 3) := by decide +kernel
theorem dX1_bring_12 : decode cX1_bring 12 = .ok (.ifCond .ne 5, 3) := by decide +kernel
theorem dX1_bring_15 : decode cX1_bring 15 = .ok (.iconst (-1), 1) := by decide +kernel
theorem dX1_bring_16 : decode cX1_bring 16 = .ok (.ireturn, 1) := by decide +kernel
theorem dX1_bring_17 : decode cX1_bring 17 = .ok (.aload_n 0, 1) := by decide +kernel
theorem dX1_bring_18 : decode cX1_bring 18 = .ok (.getfield 9, 3) := by decide +kernel
theorem dX1_bring_21 : decode cX1_bring 21 = .ok (.iload_n 1, 1) := by decide +kernel
theorem dX1_bring_22 : decode cX1_bring 22 = .ok (.iaload, 1) := by decide +kernel
theorem dX1_bring_23 : decode cX1_bring 23 = .ok (.istore_n 3, 1) := by decide +kernel
theorem dX1_bring_24 : decode cX1_bring 24 = .ok (.iload_n 3, 1) := by decide +kernel
theorem dX1_bring_25 : decode cX1_bring 25 = .ok (.iload_n 2, 1) := by decide +kernel
theorem dX1_bring_26 : decode cX1_bring 26 = .ok (.if_icmp .ne 6, 3) := by decide +kernel
theorem dX1_bring_29 : decode cX1_bring 29 = .ok (.bipush (-5), 2) := by decide +kernel
theorem dX1_bring_31 : decode cX1_bring 31 = .ok (.ireturn, 1) := by decide +kernel
theorem dX1_bring_32 : decode cX1_bring 32 = .ok (.aload_n 0, 1) := by decide +kernel
theorem dX1_bring_33 : decode cX1_bring 33 = .ok (.getfield 9, 3) := by decide +kernel
theorem dX1_bring_36 : decode cX1_bring 36 = .ok (.iload_n 1, 1) := by decide +kernel
theorem dX1_bring_37 : decode cX1_bring 37 = .ok (.iload_n 2, 1) := by decide +kernel
theorem dX1_bring_38 : decode cX1_bring 38 = .ok (.iastore, 1) := by decide +kernel
theorem dX1_bring_39 : decode cX1_bring 39 = .ok (.iload_n 3, 1) := by decide +kernel
theorem dX1_bring_40 : decode cX1_bring 40 = .ok (.ireturn, 1) := by decide +kernel
theorem dX1_turnByHand_0 : decode cX1_turnByHand 0 = .ok (.aload_n 0, 1) := by decide +kernel
theorem dX1_turnByHand_1 : decode cX1_turnByHand 1 = .ok (.iload_n 1, 1) := by decide +kernel
theorem dX1_turnByHand_2 : decode cX1_turnByHand 2 = .ok (.invokevirtual 79, 3) := by decide +kernel
theorem dX1_turnByHand_5 : decode cX1_turnByHand 5 = .ok (.ifCond .eq 10, 3) := by decide +kernel
theorem dX1_turnByHand_8 : decode cX1_turnByHand 8 = .ok (.iload_n 2, 1) := by decide +kernel
theorem dX1_turnByHand_9 : decode cX1_turnByHand 9 = .ok (.invokestatic 72, 3) := by decide +kernel
theorem dX1_turnByHand_12 : decode cX1_turnByHand 12 = .ok (.ifCond .ne 5, 3) := by decide +kernel
theorem dX1_turnByHand_15 : decode cX1_turnByHand 15 = .ok (.iconst (-1), 1) := by decide +kernel
theorem dX1_turnByHand_16 : decode cX1_turnByHand 16 = .ok (.ireturn, 1) := by decide +kernel
theorem dX1_turnByHand_17 : decode cX1_turnByHand 17 = .ok (.aload_n 0, 1) := by decide +kernel
theorem dX1_turnByHand_18 : decode cX1_turnByHand 18 = .ok (.getfield 21, 3) := by decide +kernel
theorem dX1_turnByHand_21 : decode cX1_turnByHand 21 = .ok (.iload_n 1, 1) := by decide +kernel
theorem dX1_turnByHand_22 : decode cX1_turnByHand 22 = .ok (.iaload, 1) := by decide +kernel
theorem dX1_turnByHand_23 : decode cX1_turnByHand 23 = .ok (.istore_n 3, 1) := by decide +kernel
theorem dX1_turnByHand_24 : decode cX1_turnByHand 24 = .ok (.iload_n 3, 1) := by decide +kernel
theorem dX1_turnByHand_25 : decode cX1_turnByHand 25 = .ok (.iload_n 2, 1) := by decide +kernel
theorem dX1_turnByHand_26 : decode cX1_turnByHand 26 = .ok (.if_icmp .ne 6, 3) := by decide +kernel
theorem dX1_turnByHand_29 : decode cX1_turnByHand 29 = .ok (.bipush (-5), 2) := by decide +kernel
theorem dX1_turnByHand_31 : decode cX1_turnByHand 31 = .ok (.ireturn, 1) := by decide +kernel
theorem dX1_turnByHand_32 : decode cX1_turnByHand 32 = .ok (.aload_n 0, 1) := by decide +kernel
theorem dX1_turnByHand_33 : decode cX1_turnByHand 33 = .ok (.getfield 21, 3) := by decide +kernel
theorem dX1_turnByHand_36 : decode cX1_turnByHand 36 = .ok (.iload_n 1, 1) := by decide +kernel
theorem dX1_turnByHand_37 : decode cX1_turnByHand 37 = .ok (.iload_n 2, 1) := by decide +kernel
theorem dX1_turnByHand_38 : decode cX1_turnByHand 38 = .ok (.iastore, 1) := by decide +kernel
theorem dX1_turnByHand_39 : decode cX1_turnByHand 39 = .ok (.iload_n 3, 1) := by decide +kernel
theorem dX1_turnByHand_40 : decode cX1_turnByHand 40 = .ok (.ireturn, 1) := by decide +kernel
theorem dX1_takeCrow_0 : decode cX1_takeCrow 0 = .ok (.aload_n 0, 1) := by decide +kernel
theorem dX1_takeCrow_1 : decode cX1_takeCrow 1 = .ok (.iload_n 1, 1) := by decide +kernel
theorem dX1_takeCrow_2 : decode cX1_takeCrow 2 = .ok (.invokevirtual 79, 3) := by decide +kernel
theorem dX1_takeCrow_5 : decode cX1_takeCrow 5 = .ok (.ifCond .eq 10, 3) := by decide +kernel
theorem dX1_takeCrow_8 : decode cX1_takeCrow 8 = .ok (.iload_n 2, 1) := by decide +kernel
theorem dX1_takeCrow_9 : decode cX1_takeCrow 9 = .ok (.invokestatic 72, 3) := by decide +kernel
theorem dX1_takeCrow_12 : decode cX1_takeCrow 12 = .ok (.ifCond .ne 5, 3) := by decide +kernel
theorem dX1_takeCrow_15 : decode cX1_takeCrow 15 = .ok (.iconst (-1), 1) := by decide +kernel
theorem dX1_takeCrow_16 : decode cX1_takeCrow 16 = .ok (.ireturn, 1) := by decide +kernel
theorem dX1_takeCrow_17 : decode cX1_takeCrow 17 = .ok (.aload_n 0, 1) := by decide +kernel
theorem dX1_takeCrow_18 : decode cX1_takeCrow 18 = .ok (.getfield 24, 3) := by decide +kernel
theorem dX1_takeCrow_21 : decode cX1_takeCrow 21 = .ok (.iload_n 1, 1) := by decide +kernel
theorem dX1_takeCrow_22 : decode cX1_takeCrow 22 = .ok (.iaload, 1) := by decide +kernel
theorem dX1_takeCrow_23 : decode cX1_takeCrow 23 = .ok (.ifCond .ne 6, 3) := by decide +kernel
theorem dX1_takeCrow_26 : decode cX1_takeCrow 26 = .ok (.bipush (-4), 2) := by decide +kernel
theorem dX1_takeCrow_28 : decode cX1_takeCrow 28 = .ok (.ireturn, 1) := by decide +kernel
theorem dX1_takeCrow_29 : decode cX1_takeCrow 29 = .ok (.aload_n 0, 1) := by decide +kernel
theorem dX1_takeCrow_30 : decode cX1_takeCrow 30 = .ok (.iload_n 1, 1) := by decide +kernel
theorem dX1_takeCrow_31 : decode cX1_takeCrow 31 = .ok (.invokevirtual 82, 3) := by decide +kernel
theorem dX1_takeCrow_34 : decode cX1_takeCrow 34 = .ok (.istore_n 3, 1) := by decide +kernel
theorem dX1_takeCrow_35 : decode cX1_takeCrow 35 = .ok (.iload_n 3, 1) := by decide +kernel
theorem dX1_takeCrow_36 : decode cX1_takeCrow 36 = .ok (.bipush 9, 2) := by decide +kernel
theorem dX1_takeCrow_38 : decode cX1_takeCrow 38 = .ok (.if_icmp .lt 6, 3) := by decide +kernel
theorem dX1_takeCrow_41 : decode cX1_takeCrow 41 = .ok (.bipush (-3), 2) := by decide +kernel
theorem dX1_takeCrow_43 : decode cX1_takeCrow 43 = .ok (.ireturn, 1) := by decide +kernel
theorem dX1_takeCrow_44 : decode cX1_takeCrow 44 = .ok (.aload_n 0, 1) := by decide +kernel
theorem dX1_takeCrow_45 : decode cX1_takeCrow 45 = .ok (.getfield 33, 3) := by decide +kernel
theorem dX1_takeCrow_48 : decode cX1_takeCrow 48 = .ok (.iload_n 1, 1) := by decide +kernel
theorem dX1_takeCrow_49 : decode cX1_takeCrow 49 = .ok (.iconst 4, 1) := by decide +kernel
theorem dX1_takeCrow_50 : decode cX1_takeCrow 50 = .ok (.imul, 1) := by decide +kernel
theorem dX1_takeCrow_51 : decode cX1_takeCrow 51 = .ok (.iload_n 2, 1) := by decide +kernel
theorem dX1_takeCrow_52 : decode cX1_takeCrow 52 = .ok (.iadd, 1) := by decide +kernel
theorem dX1_takeCrow_53 : decode cX1_takeCrow 53 = .ok (.dup2, 1) := by decide +kernel
theorem dX1_takeCrow_54 : decode cX1_takeCrow 54 = .ok (.iaload, 1) := by decide +kernel
theorem dX1_takeCrow_55 : decode cX1_takeCrow 55 = .ok (.iconst 1, 1) := by decide +kernel
theorem dX1_takeCrow_56 : decode cX1_takeCrow 56 = .ok (.iadd, 1) := by decide +kernel
theorem dX1_takeCrow_57 : decode cX1_takeCrow 57 = .ok (.iastore, 1) := by decide +kernel
theorem dX1_takeCrow_58 : decode cX1_takeCrow 58 = .ok (.iload_n 3, 1) := by decide +kernel
theorem dX1_takeCrow_59 : decode cX1_takeCrow 59 = .ok (.iconst 1, 1) := by decide +kernel
theorem dX1_takeCrow_60 : decode cX1_takeCrow 60 = .ok (.iadd, 1) := by decide +kernel
theorem dX1_takeCrow_61 : decode cX1_takeCrow 61 = .ok (.ireturn, 1) := by decide +kernel
theorem dX1_scareOff_0 : decode cX1_scareOff 0 = .ok (.aload_n 0, 1) := by decide +kernel
theorem dX1_scareOff_1 : decode cX1_scareOff 1 = .ok (.iload_n 1, 1) := by decide +kernel
theorem dX1_scareOff_2 : decode cX1_scareOff 2 = .ok (.invokevirtual 79, 3) := by decide +kernel
theorem dX1_scareOff_5 : decode cX1_scareOff 5 = .ok (.ifCond .ne 5, 3) := by decide +kernel
theorem dX1_scareOff_8 : decode cX1_scareOff 8 = .ok (.iconst (-1), 1) := by decide +kernel
theorem dX1_scareOff_9 : decode cX1_scareOff 9 = .ok (.ireturn, 1) := by decide +kernel
theorem dX1_scareOff_10 : decode cX1_scareOff 10 = .ok (.aload_n 0, 1) := by decide +kernel
theorem dX1_scareOff_11 : decode cX1_scareOff 11 = .ok (.iload_n 1, 1) := by decide +kernel
theorem dX1_scareOff_12 : decode cX1_scareOff 12 = .ok (.invokevirtual 82, 3) := by decide +kernel
theorem dX1_scareOff_15 : decode cX1_scareOff 15 = .ok (.istore_n 2, 1) := by decide +kernel
theorem dX1_scareOff_16 : decode cX1_scareOff 16 = .ok (.iload_n 2, 1) := by decide +kernel
theorem dX1_scareOff_17 : decode cX1_scareOff 17 = .ok (.ifCond .ne 6, 3) := by decide +kernel
theorem dX1_scareOff_20 : decode cX1_scareOff 20 = .ok (.bipush (-5), 2) := by decide +kernel
theorem dX1_scareOff_22 : decode cX1_scareOff 22 = .ok (.ireturn, 1) := by decide +kernel
theorem dX1_scareOff_23 : decode cX1_scareOff 23 = .ok (.aload_n 0, 1) := by decide +kernel
theorem dX1_scareOff_24 : decode cX1_scareOff 24 = .ok (.iload_n 1, 1) := by decide +kernel
theorem dX1_scareOff_25 : decode cX1_scareOff 25 = .ok (.invokevirtual 86, 3) := by decide +kernel
theorem dX1_scareOff_28 : decode cX1_scareOff 28 = .ok (.iload_n 2, 1) := by decide +kernel
theorem dX1_scareOff_29 : decode cX1_scareOff 29 = .ok (.ireturn, 1) := by decide +kernel
theorem dX1_stuff_0 : decode cX1_stuff 0 = .ok (.aload_n 0, 1) := by decide +kernel
theorem dX1_stuff_1 : decode cX1_stuff 1 = .ok (.iload_n 1, 1) := by decide +kernel
theorem dX1_stuff_2 : decode cX1_stuff 2 = .ok (.invokevirtual 79, 3) := by decide +kernel
theorem dX1_stuff_5 : decode cX1_stuff 5 = .ok (.ifCond .ne 5, 3) := by decide +kernel
theorem dX1_stuff_8 : decode cX1_stuff 8 = .ok (.iconst (-1), 1) := by decide +kernel
theorem dX1_stuff_9 : decode cX1_stuff 9 = .ok (.ireturn, 1) := by decide +kernel
theorem dX1_stuff_10 : decode cX1_stuff 10 = .ok (.iload_n 2, 1) := by decide +kernel
theorem dX1_stuff_11 : decode cX1_stuff 11 = .ok (.iconst 1, 1) := by decide +kernel
theorem dX1_stuff_12 : decode cX1_stuff 12 = .ok (.bipush 64, 2) := by decide +kernel
theorem dX1_stuff_14 : decode cX1_stuff 14 = .ok (.invokestatic 75, 3) := by decide +kernel
theorem dX1_stuff_17 : decode cX1_stuff 17 = .ok (.ifCond .ne 6, 3) := by decide +kernel
theorem dX1_stuff_20 : decode cX1_stuff 20 = .ok (.bipush (-2), 2) := by decide +kernel
theorem dX1_stuff_22 : decode cX1_stuff 22 = .ok (.ireturn, 1) := by decide +kernel
theorem dX1_stuff_23 : decode cX1_stuff 23 = .ok (.iload_n 2, 1) := by decide +kernel
theorem dX1_stuff_24 : decode cX1_stuff 24 = .ok (.bipush 64, 2) := by decide +kernel
theorem dX1_stuff_26 : decode cX1_stuff 26 = .ok (.aload_n 0, 1) := by decide +kernel
theorem dX1_stuff_27 : decode cX1_stuff 27 = .ok (.getfield 24, 3) := by decide +kernel
theorem dX1_stuff_30 : decode cX1_stuff 30 = .ok (.iload_n 1, 1) := by decide +kernel
theorem dX1_stuff_31 : decode cX1_stuff 31 = .ok (.iaload, 1) := by decide +kernel
theorem dX1_stuff_32 : decode cX1_stuff 32 = .ok (.isub, 1) := by decide +kernel
theorem dX1_stuff_33 : decode cX1_stuff 33 = .ok (.aload_n 0, 1) := by decide +kernel
theorem dX1_stuff_34 : decode cX1_stuff 34 = .ok (.getfield 42, 3) := by decide +kernel
theorem dX1_stuff_37 : decode cX1_stuff 37 = .ok (.invokestatic 90, 3) := by decide +kernel
theorem dX1_stuff_40 : decode cX1_stuff 40 = .ok (.invokestatic 90, 3) := by decide +kernel
theorem dX1_stuff_43 : decode cX1_stuff 43 = .ok (.istore_n 3, 1) := by decide +kernel
theorem dX1_stuff_44 : decode cX1_stuff 44 = .ok (.iload_n 3, 1) := by decide +kernel
theorem dX1_stuff_45 : decode cX1_stuff 45 = .ok (.ifCond .gt 6, 3) := by decide +kernel
theorem dX1_stuff_48 : decode cX1_stuff 48 = .ok (.bipush (-5), 2) := by decide +kernel
theorem dX1_stuff_50 : decode cX1_stuff 50 = .ok (.ireturn, 1) := by decide +kernel
theorem dX1_stuff_51 : decode cX1_stuff 51 = .ok (.aload_n 0, 1) := by decide +kernel
theorem dX1_stuff_52 : decode cX1_stuff 52 = .ok (.getfield 24, 3) := by decide +kernel
theorem dX1_stuff_55 : decode cX1_stuff 55 = .ok (.iload_n 1, 1) := by decide +kernel
theorem dX1_stuff_56 : decode cX1_stuff 56 = .ok (.dup2, 1) := by decide +kernel
theorem dX1_stuff_57 : decode cX1_stuff 57 = .ok (.iaload, 1) := by decide +kernel
theorem dX1_stuff_58 : decode cX1_stuff 58 = .ok (.iload_n 3, 1) := by decide +kernel
theorem dX1_stuff_59 : decode cX1_stuff 59 = .ok (.iadd, 1) := by decide +kernel
theorem dX1_stuff_60 : decode cX1_stuff 60 = .ok (.iastore, 1) := by decide +kernel
theorem dX1_stuff_61 : decode cX1_stuff 61 = .ok (.aload_n 0, 1) := by decide +kernel
theorem dX1_stuff_62 : decode cX1_stuff 62 = .ok (.dup, 1) := by decide +kernel
theorem dX1_stuff_63 : decode cX1_stuff 63 = .ok (.getfield 42, 3) := by decide +kernel
theorem dX1_stuff_66 : decode cX1_stuff 66 = .ok (.iload_n 3, 1) := by decide +kernel
theorem dX1_stuff_67 : decode cX1_stuff 67 = .ok (.isub, 1) := by decide +kernel
theorem dX1_stuff_68 : decode cX1_stuff 68 = .ok (.putfield 42, 3) := by decide +kernel
theorem dX1_stuff_71 : decode cX1_stuff 71 = .ok (.iload_n 3, 1) := by decide +kernel
theorem dX1_stuff_72 : decode cX1_stuff 72 = .ok (.ireturn, 1) := by decide +kernel
theorem dX1_giveSeats_0 : decode cX1_giveSeats 0 = .ok (.iload_n 1, 1) := by decide +kernel
theorem dX1_giveSeats_1 : decode cX1_giveSeats 1 = .ok (.invokestatic 68, 3) := by decide +kernel
theorem dX1_giveSeats_4 : decode cX1_giveSeats 4 = .ok (.ifCond .ne 5, 3) := by decide +kernel
theorem dX1_giveSeats_7 : decode cX1_giveSeats 7 = .ok (.iconst (-1), 1) := by decide +kernel
theorem dX1_giveSeats_8 : decode cX1_giveSeats 8 = .ok (.ireturn, 1) := by decide +kernel
theorem dX1_giveSeats_9 : decode cX1_giveSeats 9 = .ok (.iload_n 2, 1) := by decide +kernel
theorem dX1_giveSeats_10 : decode cX1_giveSeats 10 = .ok (.iconst 1, 1) := by decide +kernel
theorem dX1_giveSeats_11 : decode cX1_giveSeats 11 = .ok (.bipush 9, 2) := by decide +kernel
theorem dX1_giveSeats_13 : decode cX1_giveSeats 13 = .ok (.invokestatic 75, 3) := by decide +kernel
theorem dX1_giveSeats_16 : decode cX1_giveSeats 16 = .ok (.ifCond .ne 6, 3) := by decide +kernel
theorem dX1_giveSeats_19 : decode cX1_giveSeats 19 = .ok (.bipush (-2), 2) := by decide +kernel
theorem dX1_giveSeats_21 : decode cX1_giveSeats 21 = .ok (.ireturn, 1) := by decide +kernel
theorem dX1_giveSeats_22 : decode cX1_giveSeats 22 = .ok (.aload_n 0, 1) := by decide +kernel
theorem dX1_giveSeats_23 : decode cX1_giveSeats 23 = .ok (.getfield 36, 3) := by decide +kernel
theorem dX1_giveSeats_26 : decode cX1_giveSeats 26 = .ok (.iload_n 1, 1) := by decide +kernel
theorem dX1_giveSeats_27 : decode cX1_giveSeats 27 = .ok (.iaload, 1) := by decide +kernel
theorem dX1_giveSeats_28 : decode cX1_giveSeats 28 = .ok (.istore_n 3, 1) := by decide +kernel
theorem dX1_giveSeats_29 : decode cX1_giveSeats 29 = .ok (.iload_n 3, 1) := by decide +kernel
theorem dX1_giveSeats_30 : decode cX1_giveSeats 30 = .ok (.iload_n 2, 1) := by decide +kernel
theorem dX1_giveSeats_31 : decode cX1_giveSeats 31 = .ok (.if_icmp .ne 6, 3) := by decide +kernel
theorem dX1_giveSeats_34 : decode cX1_giveSeats 34 = .ok (.bipush (-5), 2) := by decide +kernel
theorem dX1_giveSeats_36 : decode cX1_giveSeats 36 = .ok (.ireturn, 1) := by decide +kernel
theorem dX1_giveSeats_37 : decode cX1_giveSeats 37 = .ok (.aload_n 0, 1) := by decide +kernel
theorem dX1_giveSeats_38 : decode cX1_giveSeats 38 = .ok (.getfield 36, 3) := by decide +kernel
theorem dX1_giveSeats_41 : decode cX1_giveSeats 41 = .ok (.iload_n 1, 1) := by decide +kernel
theorem dX1_giveSeats_42 : decode cX1_giveSeats 42 = .ok (.iload_n 2, 1) := by decide +kernel
theorem dX1_giveSeats_43 : decode cX1_giveSeats 43 = .ok (.iastore, 1) := by decide +kernel
theorem dX1_giveSeats_44 : decode cX1_giveSeats 44 = .ok (.iload_n 3, 1) := by decide +kernel
theorem dX1_giveSeats_45 : decode cX1_giveSeats 45 = .ok (.ireturn, 1) := by decide +kernel
theorem dX1_blow_0 : decode cX1_blow 0 = .ok (.iload_n 1, 1) := by decide +kernel
theorem dX1_blow_1 : decode cX1_blow 1 = .ok (.invokestatic 72, 3) := by decide +kernel
theorem dX1_blow_4 : decode cX1_blow 4 = .ok (.ifCond .ne 5, 3) := by decide +kernel
theorem dX1_blow_7 : decode cX1_blow 7 = .ok (.iconst (-1), 1) := by decide +kernel
theorem dX1_blow_8 : decode cX1_blow 8 = .ok (.ireturn, 1) := by decide +kernel
theorem dX1_blow_9 : decode cX1_blow 9 = .ok (.iload_n 2, 1) := by decide +kernel
theorem dX1_blow_10 : decode cX1_blow 10 = .ok (.iconst 0, 1) := by decide +kernel
theorem dX1_blow_11 : decode cX1_blow 11 = .ok (.bipush 9, 2) := by decide +kernel
theorem dX1_blow_13 : decode cX1_blow 13 = .ok (.invokestatic 75, 3) := by decide +kernel
theorem dX1_blow_16 : decode cX1_blow 16 = .ok (.ifCond .ne 6, 3) := by decide +kernel
theorem dX1_blow_19 : decode cX1_blow 19 = .ok (.bipush (-2), 2) := by decide +kernel
theorem dX1_blow_21 : decode cX1_blow 21 = .ok (.ireturn, 1) := by decide +kernel
theorem dX1_blow_22 : decode cX1_blow 22 = .ok (.aload_n 0, 1) := by decide +kernel
theorem dX1_blow_23 : decode cX1_blow 23 = .ok (.getfield 56, 3) := by decide +kernel
theorem dX1_blow_26 : decode cX1_blow 26 = .ok (.iload_n 1, 1) := by decide +kernel
theorem dX1_blow_27 : decode cX1_blow 27 = .ok (.if_icmp .ne 14, 3) := by decide +kernel
theorem dX1_blow_30 : decode cX1_blow 30 = .ok (.aload_n 0, 1) := by decide +kernel
theorem dX1_blow_31 : decode cX1_blow 31 = .ok (.getfield 59, 3) := by decide +kernel
theorem dX1_blow_34 : decode cX1_blow 34 = .ok (.iload_n 2, 1) := by decide +kernel
theorem dX1_blow_35 : decode cX1_blow 35 = .ok (.if_icmp .ne 6, 3) := by decide +kernel
theorem dX1_blow_38 : decode cX1_blow 38 = .ok (.bipush (-5), 2) := by decide +kernel
theorem dX1_blow_40 : decode cX1_blow 40 = .ok (.ireturn, 1) := by decide +kernel
theorem dX1_blow_41 : decode cX1_blow 41 = .ok (.bipush 10, 2) := by decide +kernel
theorem dX1_blow_43 : decode cX1_blow 43 = .ok (.aload_n 0, 1) := by decide +kernel
theorem dX1_blow_44 : decode cX1_blow 44 = .ok (.getfield 56, 3) := by decide +kernel
theorem dX1_blow_47 : decode cX1_blow 47 = .ok (.imul, 1) := by decide +kernel
theorem dX1_blow_48 : decode cX1_blow 48 = .ok (.aload_n 0, 1) := by decide +kernel
theorem dX1_blow_49 : decode cX1_blow 49 = .ok (.getfield 59, 3) := by decide +kernel
theorem dX1_blow_52 : decode cX1_blow 52 = .ok (.iadd, 1) := by decide +kernel
theorem dX1_blow_53 : decode cX1_blow 53 = .ok (.istore_n 3, 1) := by decide +kernel
theorem dX1_blow_54 : decode cX1_blow 54 = .ok (.aload_n 0, 1) := by decide +kernel
theorem dX1_blow_55 : decode cX1_blow 55 = .ok (.iload_n 1, 1) := by decide +kernel
theorem dX1_blow_56 : decode cX1_blow 56 = .ok (.putfield 56, 3) := by decide +kernel
theorem dX1_blow_59 : decode cX1_blow 59 = .ok (.aload_n 0, 1) := by decide +kernel
theorem dX1_blow_60 : decode cX1_blow 60 = .ok (.iload_n 2, 1) := by decide +kernel
theorem dX1_blow_61 : decode cX1_blow 61 = .ok (.putfield 59, 3) := by decide +kernel
theorem dX1_blow_64 : decode cX1_blow 64 = .ok (.iload_n 3, 1) := by decide +kernel
theorem dX1_blow_65 : decode cX1_blow 65 = .ok (.ireturn, 1) := by decide +kernel
theorem dX1_adjust_0 : decode cX1_adjust 0 = .ok (.iload_n 1, 1) := by decide +kernel
theorem dX1_adjust_1 : decode cX1_adjust 1 = .ok (.iconst 0, 1) := by decide +kernel
theorem dX1_adjust_2 : decode cX1_adjust 2 = .ok (.iconst 1, 1) := by decide +kernel
theorem dX1_adjust_3 : decode cX1_adjust 3 = .ok (.invokestatic 75, 3) := by decide +kernel
theorem dX1_adjust_6 : decode cX1_adjust 6 = .ok (.ifCond .ne 5, 3) := by decide +kernel
theorem dX1_adjust_9 : decode cX1_adjust 9 = .ok (.iconst (-1), 1) := by decide +kernel
theorem dX1_adjust_10 : decode cX1_adjust 10 = .ok (.ireturn, 1) := by decide +kernel
theorem dX1_adjust_11 : decode cX1_adjust 11 = .ok (.iload_n 2, 1) := by decide +kernel
theorem dX1_adjust_12 : decode cX1_adjust 12 = .ok (.iconst 0, 1) := by decide +kernel
theorem dX1_adjust_13 : decode cX1_adjust 13 = .ok (.iload_n 1, 1) := by decide +kernel
theorem dX1_adjust_14 : decode cX1_adjust 14 = .ok (.ifCond .ne 8, 3) := by decide +kernel
theorem dX1_adjust_17 : decode cX1_adjust 17 = .ok (.bipush 50, 2) := by decide +kernel
theorem dX1_adjust_19 : decode cX1_adjust 19 = .ok (.goto 5, 3) := by decide +kernel
theorem dX1_adjust_22 : decode cX1_adjust 22 = .ok (.bipush 8, 2) := by decide +kernel
theorem dX1_adjust_24 : decode cX1_adjust 24 = .ok (.invokestatic 75, 3) := by decide +kernel
theorem dX1_adjust_27 : decode cX1_adjust 27 = .ok (.ifCond .ne 6, 3) := by decide +kernel
theorem dX1_adjust_30 : decode cX1_adjust 30 = .ok (.bipush (-2), 2) := by decide +kernel
theorem dX1_adjust_32 : decode cX1_adjust 32 = .ok (.ireturn, 1) := by decide +kernel
theorem dX1_adjust_33 : decode cX1_adjust 33 = .ok (.aload_n 0, 1) := by decide +kernel
theorem dX1_adjust_34 : decode cX1_adjust 34 = .ok (.getfield 39, 3) := by decide +kernel
theorem dX1_adjust_37 : decode cX1_adjust 37 = .ok (.iload_n 1, 1) := by decide +kernel
theorem dX1_adjust_38 : decode cX1_adjust 38 = .ok (.iaload, 1) := by decide +kernel
theorem dX1_adjust_39 : decode cX1_adjust 39 = .ok (.istore_n 3, 1) := by decide +kernel
theorem dX1_adjust_40 : decode cX1_adjust 40 = .ok (.iload_n 3, 1) := by decide +kernel
theorem dX1_adjust_41 : decode cX1_adjust 41 = .ok (.iload_n 2, 1) := by decide +kernel
theorem dX1_adjust_42 : decode cX1_adjust 42 = .ok (.if_icmp .ne 6, 3) := by decide +kernel
theorem dX1_adjust_45 : decode cX1_adjust 45 = .ok (.bipush (-5), 2) := by decide +kernel
theorem dX1_adjust_47 : decode cX1_adjust 47 = .ok (.ireturn, 1) := by decide +kernel
theorem dX1_adjust_48 : decode cX1_adjust 48 = .ok (.aload_n 0, 1) := by decide +kernel
theorem dX1_adjust_49 : decode cX1_adjust 49 = .ok (.getfield 39, 3) := by decide +kernel
theorem dX1_adjust_52 : decode cX1_adjust 52 = .ok (.iload_n 1, 1) := by decide +kernel
theorem dX1_adjust_53 : decode cX1_adjust 53 = .ok (.iload_n 2, 1) := by decide +kernel
theorem dX1_adjust_54 : decode cX1_adjust 54 = .ok (.iastore, 1) := by decide +kernel
theorem dX1_adjust_55 : decode cX1_adjust 55 = .ok (.iload_n 3, 1) := by decide +kernel
theorem dX1_adjust_56 : decode cX1_adjust 56 = .ok (.ireturn, 1) := by decide +kernel
theorem dX1_countVote_0 : decode cX1_countVote 0 = .ok (.iload_n 1, 1) := by decide +kernel
theorem dX1_countVote_1 : decode cX1_countVote 1 = .ok (.invokestatic 72, 3) := by decide +kernel
theorem dX1_countVote_4 : decode cX1_countVote 4 = .ok (.ifCond .ne 6, 3) := by decide +kernel
theorem dX1_countVote_7 : decode cX1_countVote 7 = .ok (.bipush (-4), 2) := by decide +kernel
theorem dX1_countVote_9 : decode cX1_countVote 9 = .ok (.ireturn, 1) := by decide +kernel
theorem dX1_countVote_10 : decode cX1_countVote 10 = .ok (.aload_n 0, 1) := by decide +kernel
theorem dX1_countVote_11 : decode cX1_countVote 11 = .ok (.dup, 1) := by decide +kernel
theorem dX1_countVote_12 : decode cX1_countVote 12 = .ok (.getfield 65, 3) := by decide +kernel
theorem dX1_countVote_15 : decode cX1_countVote 15 = .ok (.iconst 1, 1) := by decide +kernel
theorem dX1_countVote_16 : decode cX1_countVote 16 = .ok (.iadd, 1) := by decide +kernel
theorem dX1_countVote_17 : decode cX1_countVote 17 = .ok (.putfield 65, 3) := by decide +kernel
theorem dX1_countVote_20 : decode cX1_countVote 20 = .ok (.aload_n 0, 1) := by decide +kernel
theorem dX1_countVote_21 : decode cX1_countVote 21 = .ok (.iload_n 1, 1) := by decide +kernel
theorem dX1_countVote_22 : decode cX1_countVote 22 = .ok (.putfield 46, 3) := by decide +kernel
theorem dX1_countVote_25 : decode cX1_countVote 25 = .ok (.iload_n 1, 1) := by decide +kernel
theorem dX1_countVote_26 : decode cX1_countVote 26 = .ok (.ireturn, 1) := by decide +kernel
theorem dX1_goOn_0 : decode cX1_goOn 0 = .ok (.iload_n 1, 1) := by decide +kernel
theorem dX1_goOn_1 : decode cX1_goOn 1 = .ok (.iconst 1, 1) := by decide +kernel
theorem dX1_goOn_2 : decode cX1_goOn 2 = .ok (.bipush 99, 2) := by decide +kernel
theorem dX1_goOn_4 : decode cX1_goOn 4 = .ok (.invokestatic 75, 3) := by decide +kernel
theorem dX1_goOn_7 : decode cX1_goOn 7 = .ok (.ifCond .ne 6, 3) := by decide +kernel
theorem dX1_goOn_10 : decode cX1_goOn 10 = .ok (.bipush (-2), 2) := by decide +kernel
theorem dX1_goOn_12 : decode cX1_goOn 12 = .ok (.ireturn, 1) := by decide +kernel
theorem dX1_goOn_13 : decode cX1_goOn 13 = .ok (.aload_n 0, 1) := by decide +kernel
theorem dX1_goOn_14 : decode cX1_goOn 14 = .ok (.getfield 62, 3) := by decide +kernel
theorem dX1_goOn_17 : decode cX1_goOn 17 = .ok (.iload_n 1, 1) := by decide +kernel
theorem dX1_goOn_18 : decode cX1_goOn 18 = .ok (.iadd, 1) := by decide +kernel
theorem dX1_goOn_19 : decode cX1_goOn 19 = .ok (.ldc 96, 2) := by decide +kernel
theorem dX1_goOn_21 : decode cX1_goOn 21 = .ok (.if_icmp .le 8, 3) := by decide +kernel
theorem dX1_goOn_24 : decode cX1_goOn 24 = .ok (.bipush (-3), 2) := by decide +kernel
theorem dX1_goOn_26 : decode cX1_goOn 26 = .ok (.goto 8, 3) := by decide +kernel
theorem dX1_goOn_29 : decode cX1_goOn 29 = .ok (.aload_n 0, 1) := by decide +kernel
theorem dX1_goOn_30 : decode cX1_goOn 30 = .ok (.iload_n 1, 1) := by decide +kernel
theorem dX1_goOn_31 : decode cX1_goOn 31 = .ok (.invokevirtual 97, 3) := by decide +kernel
theorem dX1_goOn_34 : decode cX1_goOn 34 = .ok (.ireturn, 1) := by decide +kernel
theorem dX1_doTicks_0 : decode cX1_doTicks 0 = .ok (.iconst 0, 1) := by decide +kernel
theorem dX1_doTicks_1 : decode cX1_doTicks 1 = .ok (.istore_n 2, 1) := by decide +kernel
theorem dX1_doTicks_2 : decode cX1_doTicks 2 = .ok (.iconst 0, 1) := by decide +kernel
theorem dX1_doTicks_3 : decode cX1_doTicks 3 = .ok (.istore_n 3, 1) := by decide +kernel
theorem dX1_doTicks_4 : decode cX1_doTicks 4 = .ok (.iload_n 3, 1) := by decide +kernel
theorem dX1_doTicks_5 : decode cX1_doTicks 5 = .ok (.iload_n 1, 1) := by decide +kernel
theorem dX1_doTicks_6 : decode cX1_doTicks 6 = .ok (.if_icmp .ge 16, 3) := by decide +kernel
theorem dX1_doTicks_9 : decode cX1_doTicks 9 = .ok (.iload_n 2, 1) := by decide +kernel
theorem dX1_doTicks_10 : decode cX1_doTicks 10 = .ok (.aload_n 0, 1) := by decide +kernel
theorem dX1_doTicks_11 : decode cX1_doTicks 11 = .ok (.invokevirtual 100, 3) := by decide +kernel
theorem dX1_doTicks_14 : decode cX1_doTicks 14 = .ok (.iadd, 1) := by decide +kernel
theorem dX1_doTicks_15 : decode cX1_doTicks 15 = .ok (.istore_n 2, 1) := by decide +kernel
theorem dX1_doTicks_16 : decode cX1_doTicks 16 = .ok (.iinc 3 1, 3) := by decide +kernel
theorem dX1_doTicks_19 : decode cX1_doTicks 19 = .ok (.goto (-15), 3) := by decide +kernel
theorem dX1_doTicks_22 : decode cX1_doTicks 22 = .ok (.iload_n 2, 1) := by decide +kernel
theorem dX1_doTicks_23 : decode cX1_doTicks 23 = .ok (.ireturn, 1) := by decide +kernel
theorem dX1_doTick_0 : decode cX1_doTick 0 = .ok (.iconst 0, 1) := by decide +kernel
theorem dX1_doTick_1 : decode cX1_doTick 1 = .ok (.istore_n 1, 1) := by decide +kernel
theorem dX1_doTick_2 : decode cX1_doTick 2 = .ok (.iconst 0, 1) := by decide +kernel
theorem dX1_doTick_3 : decode cX1_doTick 3 = .ok (.istore_n 2, 1) := by decide +kernel
theorem dX1_doTick_4 : decode cX1_doTick 4 = .ok (.iload_n 2, 1) := by decide +kernel
theorem dX1_doTick_5 : decode cX1_doTick 5 = .ok (.aload_n 0, 1) := by decide +kernel
theorem dX1_doTick_6 : decode cX1_doTick 6 = .ok (.getfield 53, 3) := by decide +kernel
theorem dX1_doTick_9 : decode cX1_doTick 9 = .ok (.if_icmp .ge 17, 3) := by decide +kernel
theorem dX1_doTick_12 : decode cX1_doTick 12 = .ok (.iload_n 1, 1) := by decide +kernel
theorem dX1_doTick_13 : decode cX1_doTick 13 = .ok (.aload_n 0, 1) := by decide +kernel
theorem dX1_doTick_14 : decode cX1_doTick 14 = .ok (.iload_n 2, 1) := by decide +kernel
theorem dX1_doTick_15 : decode cX1_doTick 15 = .ok (.invokevirtual 104, 3) := by decide +kernel
theorem dX1_doTick_18 : decode cX1_doTick 18 = .ok (.iadd, 1) := by decide +kernel
theorem dX1_doTick_19 : decode cX1_doTick 19 = .ok (.istore_n 1, 1) := by decide +kernel
theorem dX1_doTick_20 : decode cX1_doTick 20 = .ok (.iinc 2 1, 3) := by decide +kernel
theorem dX1_doTick_23 : decode cX1_doTick 23 = .ok (.goto (-19), 3) := by decide +kernel
theorem dX1_doTick_26 : decode cX1_doTick 26 = .ok (.iconst 0, 1) := by decide +kernel
theorem dX1_doTick_27 : decode cX1_doTick 27 = .ok (.istore_n 2, 1) := by decide +kernel
theorem dX1_doTick_28 : decode cX1_doTick 28 = .ok (.iload_n 2, 1) := by decide +kernel
theorem dX1_doTick_29 : decode cX1_doTick 29 = .ok (.aload_n 0, 1) := by decide +kernel
theorem dX1_doTick_30 : decode cX1_doTick 30 = .ok (.getfield 53, 3) := by decide +kernel
theorem dX1_doTick_33 : decode cX1_doTick 33 = .ok (.if_icmp .ge 14, 3) := by decide +kernel
theorem dX1_doTick_36 : decode cX1_doTick 36 = .ok (.aload_n 0, 1) := by decide +kernel
theorem dX1_doTick_37 : decode cX1_doTick 37 = .ok (.iload_n 2, 1) := by decide +kernel
theorem dX1_doTick_38 : decode cX1_doTick 38 = .ok (.invokevirtual 107, 3) := by decide +kernel
theorem dX1_doTick_41 : decode cX1_doTick 41 = .ok (.iinc 2 1, 3) := by decide +kernel
theorem dX1_doTick_44 : decode cX1_doTick 44 = .ok (.goto (-16), 3) := by decide +kernel
theorem dX1_doTick_47 : decode cX1_doTick 47 = .ok (.aload_n 0, 1) := by decide +kernel
theorem dX1_doTick_48 : decode cX1_doTick 48 = .ok (.dup, 1) := by decide +kernel
theorem dX1_doTick_49 : decode cX1_doTick 49 = .ok (.getfield 62, 3) := by decide +kernel
theorem dX1_doTick_52 : decode cX1_doTick 52 = .ok (.iconst 1, 1) := by decide +kernel
theorem dX1_doTick_53 : decode cX1_doTick 53 = .ok (.iadd, 1) := by decide +kernel
theorem dX1_doTick_54 : decode cX1_doTick 54 = .ok (.putfield 62, 3) := by decide +kernel
theorem dX1_doTick_57 : decode cX1_doTick 57 = .ok (.aload_n 0, 1) := by decide +kernel
theorem dX1_doTick_58 : decode cX1_doTick 58 = .ok (.invokevirtual 110, 3) := by decide +kernel
theorem dX1_doTick_61 : decode cX1_doTick 61 = .ok (.iload_n 1, 1) := by decide +kernel
theorem dX1_doTick_62 : decode cX1_doTick 62 = .ok (.ireturn, 1) := by decide +kernel
theorem dX1_turnByWind_0 : decode cX1_turnByWind 0 = .ok (.aload_n 0, 1) := by decide +kernel
theorem dX1_turnByWind_1 : decode cX1_turnByWind 1 = .ok (.getfield 24, 3) := by decide +kernel
theorem dX1_turnByWind_4 : decode cX1_turnByWind 4 = .ok (.iload_n 1, 1) := by decide +kernel
theorem dX1_turnByWind_5 : decode cX1_turnByWind 5 = .ok (.iaload, 1) := by decide +kernel
theorem dX1_turnByWind_6 : decode cX1_turnByWind 6 = .ok (.bipush 32, 2) := by decide +kernel
theorem dX1_turnByWind_8 : decode cX1_turnByWind 8 = .ok (.if_icmp .ge 12, 3) := by decide +kernel
theorem dX1_turnByWind_11 : decode cX1_turnByWind 11 = .ok (.aload_n 0, 1) := by decide +kernel
theorem dX1_turnByWind_12 : decode cX1_turnByWind 12 = .ok (.getfield 59, 3) := by decide +kernel
theorem dX1_turnByWind_15 : decode cX1_turnByWind 15 = .ok (.iconst 1, 1) := by decide +kernel
theorem dX1_turnByWind_16 : decode cX1_turnByWind 16 = .ok (.iadd, 1) := by decide +kernel
theorem dX1_turnByWind_17 : decode cX1_turnByWind 17 = .ok (.goto 7, 3) := by decide +kernel
theorem dX1_turnByWind_20 : decode cX1_turnByWind 20 = .ok (.aload_n 0, 1) := by decide +kernel
theorem dX1_turnByWind_21 : decode cX1_turnByWind 21 = .ok (.getfield 59, 3) := by decide +kernel
theorem dX1_turnByWind_24 : decode cX1_turnByWind 24 = .ok (.istore_n 2, 1) := by decide +kernel
theorem dX1_turnByWind_25 : decode cX1_turnByWind 25 = .ok (.iload_n 2, 1) := by decide +kernel
theorem dX1_turnByWind_26 : decode cX1_turnByWind 26 = .ok (.aload_n 0, 1) := by decide +kernel
theorem dX1_turnByWind_27 : decode cX1_turnByWind 27 = .ok (.getfield 18, 3) := by decide +kernel
theorem dX1_turnByWind_30 : decode cX1_turnByWind 30 = .ok (.iload_n 1, 1) := by decide +kernel
theorem dX1_turnByWind_31 : decode cX1_turnByWind 31 = .ok (.iaload, 1) := by decide +kernel
theorem dX1_turnByWind_32 : decode cX1_turnByWind 32 = .ok (.if_icmp .le 16, 3) := by decide +kernel
theorem dX1_turnByWind_35 : decode cX1_turnByWind 35 = .ok (.aload_n 0, 1) := by decide +kernel
theorem dX1_turnByWind_36 : decode cX1_turnByWind 36 = .ok (.getfield 21, 3) := by decide +kernel
theorem dX1_turnByWind_39 : decode cX1_turnByWind 39 = .ok (.iload_n 1, 1) := by decide +kernel
theorem dX1_turnByWind_40 : decode cX1_turnByWind 40 = .ok (.iaload, 1) := by decide +kernel
theorem dX1_turnByWind_41 : decode cX1_turnByWind 41 = .ok (.aload_n 0, 1) := by decide +kernel
theorem dX1_turnByWind_42 : decode cX1_turnByWind 42 = .ok (.getfield 56, 3) := by decide +kernel
theorem dX1_turnByWind_45 : decode cX1_turnByWind 45 = .ok (.if_icmp .ne 5, 3) := by decide +kernel
theorem dX1_turnByWind_48 : decode cX1_turnByWind 48 = .ok (.iconst 0, 1) := by decide +kernel
theorem dX1_turnByWind_49 : decode cX1_turnByWind 49 = .ok (.ireturn, 1) := by decide +kernel
theorem dX1_turnByWind_50 : decode cX1_turnByWind 50 = .ok (.aload_n 0, 1) := by decide +kernel
theorem dX1_turnByWind_51 : decode cX1_turnByWind 51 = .ok (.getfield 21, 3) := by decide +kernel
theorem dX1_turnByWind_54 : decode cX1_turnByWind 54 = .ok (.iload_n 1, 1) := by decide +kernel
theorem dX1_turnByWind_55 : decode cX1_turnByWind 55 = .ok (.iaload, 1) := by decide +kernel
theorem dX1_turnByWind_56 : decode cX1_turnByWind 56 = .ok (.iconst 4, 1) := by decide +kernel
theorem dX1_turnByWind_57 : decode cX1_turnByWind 57 = .ok (.iadd, 1) := by decide +kernel
theorem dX1_turnByWind_58 : decode cX1_turnByWind 58 = .ok (.iconst 1, 1) := by decide +kernel
theorem dX1_turnByWind_59 : decode cX1_turnByWind 59 = .ok (.isub, 1) := by decide +kernel
theorem dX1_turnByWind_60 : decode cX1_turnByWind 60 = .ok (.iconst 4, 1) := by decide +kernel
theorem dX1_turnByWind_61 : decode cX1_turnByWind 61 = .ok (.irem, 1) := by decide +kernel
theorem dX1_turnByWind_62 : decode cX1_turnByWind 62 = .ok (.aload_n 0, 1) := by decide +kernel
theorem dX1_turnByWind_63 : decode cX1_turnByWind 63 = .ok (.getfield 56, 3) := by decide +kernel
theorem dX1_turnByWind_66 : decode cX1_turnByWind 66 = .ok (.if_icmp .ne 7, 3) := by decide +kernel
theorem dX1_turnByWind_69 : decode cX1_turnByWind 69 = .ok (.iconst 1, 1) := by decide +kernel
theorem dX1_turnByWind_70 : decode cX1_turnByWind 70 = .ok (.goto 4, 3) := by decide +kernel
theorem dX1_turnByWind_73 : decode cX1_turnByWind 73 = .ok (.iconst 0, 1) := by decide +kernel
theorem dX1_turnByWind_74 : decode cX1_turnByWind 74 = .ok (.istore_n 3, 1) := by decide +kernel
theorem dX1_turnByWind_75 : decode cX1_turnByWind 75 = .ok (.aload_n 0, 1) := by decide +kernel
theorem dX1_turnByWind_76 : decode cX1_turnByWind 76 = .ok (.getfield 21, 3) := by decide +kernel
theorem dX1_turnByWind_79 : decode cX1_turnByWind 79 = .ok (.iload_n 1, 1) := by decide +kernel
theorem dX1_turnByWind_80 : decode cX1_turnByWind 80 = .ok (.aload_n 0, 1) := by decide +kernel
theorem dX1_turnByWind_81 : decode cX1_turnByWind 81 = .ok (.getfield 21, 3) := by decide +kernel
theorem dX1_turnByWind_84 : decode cX1_turnByWind 84 = .ok (.iload_n 1, 1) := by decide +kernel
theorem dX1_turnByWind_85 : decode cX1_turnByWind 85 = .ok (.iaload, 1) := by decide +kernel
theorem dX1_turnByWind_86 : decode cX1_turnByWind 86 = .ok (.iload_n 3, 1) := by decide +kernel
theorem dX1_turnByWind_87 : decode cX1_turnByWind 87 = .ok (.ifCond .eq 7, 3) := by decide +kernel
theorem dX1_turnByWind_90 : decode cX1_turnByWind 90 = .ok (.iconst 3, 1) := by decide +kernel
theorem dX1_turnByWind_91 : decode cX1_turnByWind 91 = .ok (.goto 4, 3) := by decide +kernel
theorem dX1_turnByWind_94 : decode cX1_turnByWind 94 = .ok (.iconst 1, 1) := by decide +kernel
theorem dX1_turnByWind_95 : decode cX1_turnByWind 95 = .ok (.iadd, 1) := by decide +kernel
theorem dX1_turnByWind_96 : decode cX1_turnByWind 96 = .ok (.iconst 4, 1) := by decide +kernel
theorem dX1_turnByWind_97 : decode cX1_turnByWind 97 = .ok (.irem, 1) := by decide +kernel
theorem dX1_turnByWind_98 : decode cX1_turnByWind 98 = .ok (.iastore, 1) := by decide +kernel
theorem dX1_turnByWind_99 : decode cX1_turnByWind 99 = .ok (.aload_n 0, 1) := by decide +kernel
theorem dX1_turnByWind_100 : decode cX1_turnByWind 100 = .ok (.getfield 27, 3) := by decide +kernel
theorem dX1_turnByWind_103 : decode cX1_turnByWind 103 = .ok (.iload_n 1, 1) := by decide +kernel
theorem dX1_turnByWind_104 : decode cX1_turnByWind 104 = .ok (.dup2, 1) := by decide +kernel
theorem dX1_turnByWind_105 : decode cX1_turnByWind 105 = .ok (.iaload, 1) := by decide +kernel
theorem dX1_turnByWind_106 : decode cX1_turnByWind 106 = .ok (.iconst 1, 1) := by decide +kernel
theorem dX1_turnByWind_107 : decode cX1_turnByWind 107 = .ok (.iadd, 1) := by decide +kernel
theorem dX1_turnByWind_108 : decode cX1_turnByWind 108 = .ok (.iastore, 1) := by decide +kernel
theorem dX1_turnByWind_109 : decode cX1_turnByWind 109 = .ok (.iconst 1, 1) := by decide +kernel
theorem dX1_turnByWind_110 : decode cX1_turnByWind 110 = .ok (.ireturn, 1) := by decide +kernel
theorem dX1_pluck_0 : decode cX1_pluck 0 = .ok (.aload_n 0, 1) := by decide +kernel
theorem dX1_pluck_1 : decode cX1_pluck 1 = .ok (.iload_n 1, 1) := by decide +kernel
theorem dX1_pluck_2 : decode cX1_pluck 2 = .ok (.invokevirtual 82, 3) := by decide +kernel
theorem dX1_pluck_5 : decode cX1_pluck 5 = .ok (.aload_n 0, 1) := by decide +kernel
theorem dX1_pluck_6 : decode cX1_pluck 6 = .ok (.getfield 24, 3) := by decide +kernel
theorem dX1_pluck_9 : decode cX1_pluck 9 = .ok (.iload_n 1, 1) := by decide +kernel
theorem dX1_pluck_10 : decode cX1_pluck 10 = .ok (.iaload, 1) := by decide +kernel
theorem dX1_pluck_11 : decode cX1_pluck 11 = .ok (.invokestatic 90, 3) := by decide +kernel
theorem dX1_pluck_14 : decode cX1_pluck 14 = .ok (.istore_n 2, 1) := by decide +kernel
theorem dX1_pluck_15 : decode cX1_pluck 15 = .ok (.aload_n 0, 1) := by decide +kernel
theorem dX1_pluck_16 : decode cX1_pluck 16 = .ok (.getfield 24, 3) := by decide +kernel
theorem dX1_pluck_19 : decode cX1_pluck 19 = .ok (.iload_n 1, 1) := by decide +kernel
theorem dX1_pluck_20 : decode cX1_pluck 20 = .ok (.dup2, 1) := by decide +kernel
theorem dX1_pluck_21 : decode cX1_pluck 21 = .ok (.iaload, 1) := by decide +kernel
theorem dX1_pluck_22 : decode cX1_pluck 22 = .ok (.iload_n 2, 1) := by decide +kernel
theorem dX1_pluck_23 : decode cX1_pluck 23 = .ok (.isub, 1) := by decide +kernel
theorem dX1_pluck_24 : decode cX1_pluck 24 = .ok (.iastore, 1) := by decide +kernel
theorem dX1_pluck_25 : decode cX1_pluck 25 = .ok (.aload_n 0, 1) := by decide +kernel
theorem dX1_pluck_26 : decode cX1_pluck 26 = .ok (.getfield 30, 3) := by decide +kernel
theorem dX1_pluck_29 : decode cX1_pluck 29 = .ok (.iload_n 1, 1) := by decide +kernel
theorem dX1_pluck_30 : decode cX1_pluck 30 = .ok (.dup2, 1) := by decide +kernel
theorem dX1_pluck_31 : decode cX1_pluck 31 = .ok (.iaload, 1) := by decide +kernel
theorem dX1_pluck_32 : decode cX1_pluck 32 = .ok (.iload_n 2, 1) := by decide +kernel
theorem dX1_pluck_33 : decode cX1_pluck 33 = .ok (.iadd, 1) := by decide +kernel
theorem dX1_pluck_34 : decode cX1_pluck 34 = .ok (.iastore, 1) := by decide +kernel
theorem dX1_pluck_35 : decode cX1_pluck 35 = .ok (.aload_n 0, 1) := by decide +kernel
theorem dX1_pluck_36 : decode cX1_pluck 36 = .ok (.getfield 24, 3) := by decide +kernel
theorem dX1_pluck_39 : decode cX1_pluck 39 = .ok (.iload_n 1, 1) := by decide +kernel
theorem dX1_pluck_40 : decode cX1_pluck 40 = .ok (.iaload, 1) := by decide +kernel
theorem dX1_pluck_41 : decode cX1_pluck 41 = .ok (.ifCond .ne 8, 3) := by decide +kernel
theorem dX1_pluck_44 : decode cX1_pluck 44 = .ok (.aload_n 0, 1) := by decide +kernel
theorem dX1_pluck_45 : decode cX1_pluck 45 = .ok (.iload_n 1, 1) := by decide +kernel
theorem dX1_pluck_46 : decode cX1_pluck 46 = .ok (.invokevirtual 86, 3) := by decide +kernel
theorem dX1_pluck_49 : decode cX1_pluck 49 = .ok (.return_, 1) := by decide +kernel
theorem dX1_shiftWind_0 : decode cX1_shiftWind 0 = .ok (.aload_n 0, 1) := by decide +kernel
theorem dX1_shiftWind_1 : decode cX1_shiftWind 1 = .ok (.getfield 39, 3) := by decide +kernel
theorem dX1_shiftWind_4 : decode cX1_shiftWind 4 = .ok (.iconst 0, 1) := by decide +kernel
theorem dX1_shiftWind_5 : decode cX1_shiftWind 5 = .ok (.iaload, 1) := by decide +kernel
theorem dX1_shiftWind_6 : decode cX1_shiftWind 6 = .ok (.istore_n 1, 1) := by decide +kernel
theorem dX1_shiftWind_7 : decode cX1_shiftWind 7 = .ok (.iload_n 1, 1) := by decide +kernel
theorem dX1_shiftWind_8 : decode cX1_shiftWind 8 = .ok (.ifCond .le 24, 3) := by decide +kernel
theorem dX1_shiftWind_11 : decode cX1_shiftWind 11 = .ok (.aload_n 0, 1) := by decide +kernel
theorem dX1_shiftWind_12 : decode cX1_shiftWind 12 = .ok (.getfield 62, 3) := by decide +kernel
theorem dX1_shiftWind_15 : decode cX1_shiftWind 15 = .ok (.iload_n 1, 1) := by decide +kernel
theorem dX1_shiftWind_16 : decode cX1_shiftWind 16 = .ok (.irem, 1) := by decide +kernel
theorem dX1_shiftWind_17 : decode cX1_shiftWind 17 = .ok (.ifCond .ne 15, 3) := by decide +kernel
theorem dX1_shiftWind_20 : decode cX1_shiftWind 20 = .ok (.aload_n 0, 1) := by decide +kernel
theorem dX1_shiftWind_21 : decode cX1_shiftWind 21 = .ok (.aload_n 0, 1) := by decide +kernel
theorem dX1_shiftWind_22 : decode cX1_shiftWind 22 = .ok (.getfield 56, 3) := by decide +kernel
theorem dX1_shiftWind_25 : decode cX1_shiftWind 25 = .ok (.iconst 1, 1) := by decide +kernel
theorem dX1_shiftWind_26 : decode cX1_shiftWind 26 = .ok (.iadd, 1) := by decide +kernel
theorem dX1_shiftWind_27 : decode cX1_shiftWind 27 = .ok (.iconst 4, 1) := by decide +kernel
theorem dX1_shiftWind_28 : decode cX1_shiftWind 28 = .ok (.irem, 1) := by decide +kernel
theorem dX1_shiftWind_29 : decode cX1_shiftWind 29 = .ok (.putfield 56, 3) := by decide +kernel
theorem dX1_shiftWind_32 : decode cX1_shiftWind 32 = .ok (.return_, 1) := by decide +kernel
theorem dX1_letCrowsFly_0 : decode cX1_letCrowsFly 0 = .ok (.iconst 0, 1) := by decide +kernel
theorem dX1_letCrowsFly_1 : decode cX1_letCrowsFly 1 = .ok (.istore_n 2, 1) := by decide +kernel
theorem dX1_letCrowsFly_2 : decode cX1_letCrowsFly 2 = .ok (.iload_n 2, 1) := by decide +kernel
theorem dX1_letCrowsFly_3 : decode cX1_letCrowsFly 3 = .ok (.iconst 4, 1) := by decide +kernel
theorem dX1_letCrowsFly_4 : decode cX1_letCrowsFly 4 = .ok (.if_icmp .ge 20, 3) := by decide +kernel
theorem dX1_letCrowsFly_7 : decode cX1_letCrowsFly 7 = .ok (.aload_n 0, 1) := by decide +kernel
theorem dX1_letCrowsFly_8 : decode cX1_letCrowsFly 8 = .ok (.getfield 33, 3) := by decide +kernel
theorem dX1_letCrowsFly_11 : decode cX1_letCrowsFly 11 = .ok (.iload_n 1, 1) := by decide +kernel
theorem dX1_letCrowsFly_12 : decode cX1_letCrowsFly 12 = .ok (.iconst 4, 1) := by decide +kernel
theorem dX1_letCrowsFly_13 : decode cX1_letCrowsFly 13 = .ok (.imul, 1) := by decide +kernel
theorem dX1_letCrowsFly_14 : decode cX1_letCrowsFly 14 = .ok (.iload_n 2, 1) := by decide +kernel
theorem dX1_letCrowsFly_15 : decode cX1_letCrowsFly 15 = .ok (.iadd, 1) := by decide +kernel
theorem dX1_letCrowsFly_16 : decode cX1_letCrowsFly 16 = .ok (.iconst 0, 1) := by decide +kernel
theorem dX1_letCrowsFly_17 : decode cX1_letCrowsFly 17 = .ok (.iastore, 1) := by decide +kernel
theorem dX1_letCrowsFly_18 : decode cX1_letCrowsFly 18 = .ok (.iinc 2 1, 3) := by decide +kernel
theorem dX1_letCrowsFly_21 : decode cX1_letCrowsFly 21 = .ok (.goto (-19), 3) := by decide +kernel
theorem dX1_letCrowsFly_24 : decode cX1_letCrowsFly 24 = .ok (.return_, 1) := by decide +kernel
theorem dX1_isScarecrow_0 : decode cX1_isScarecrow 0 = .ok (.iload_n 1, 1) := by decide +kernel
theorem dX1_isScarecrow_1 : decode cX1_isScarecrow 1 = .ok (.ifCond .lt 15, 3) := by decide +kernel
theorem dX1_isScarecrow_4 : decode cX1_isScarecrow 4 = .ok (.iload_n 1, 1) := by decide +kernel
theorem dX1_isScarecrow_5 : decode cX1_isScarecrow 5 = .ok (.aload_n 0, 1) := by decide +kernel
theorem dX1_isScarecrow_6 : decode cX1_isScarecrow 6 = .ok (.getfield 53, 3) := by decide +kernel
theorem dX1_isScarecrow_9 : decode cX1_isScarecrow 9 = .ok (.if_icmp .ge 7, 3) := by decide +kernel
theorem dX1_isScarecrow_12 : decode cX1_isScarecrow 12 = .ok (.iconst 1, 1) := by decide +kernel
theorem dX1_isScarecrow_13 : decode cX1_isScarecrow 13 = .ok (.goto 4, 3) := by decide +kernel
theorem dX1_isScarecrow_16 : decode cX1_isScarecrow 16 = .ok (.iconst 0, 1) := by decide +kernel
theorem dX1_isScarecrow_17 : decode cX1_isScarecrow 17 = .ok (.ireturn, 1) := by decide +kernel
theorem dX1_crowsOn_0 : decode cX1_crowsOn 0 = .ok (.iconst 0, 1) := by decide +kernel
theorem dX1_crowsOn_1 : decode cX1_crowsOn 1 = .ok (.istore_n 2, 1) := by decide +kernel
theorem dX1_crowsOn_2 : decode cX1_crowsOn 2 = .ok (.iconst 0, 1) := by decide +kernel
theorem dX1_crowsOn_3 : decode cX1_crowsOn 3 = .ok (.istore_n 3, 1) := by decide +kernel
theorem dX1_crowsOn_4 : decode cX1_crowsOn 4 = .ok (.iload_n 3, 1) := by decide +kernel
theorem dX1_crowsOn_5 : decode cX1_crowsOn 5 = .ok (.iconst 4, 1) := by decide +kernel
theorem dX1_crowsOn_6 : decode cX1_crowsOn 6 = .ok (.if_icmp .ge 22, 3) := by decide +kernel
theorem dX1_crowsOn_9 : decode cX1_crowsOn 9 = .ok (.iload_n 2, 1) := by decide +kernel
theorem dX1_crowsOn_10 : decode cX1_crowsOn 10 = .ok (.aload_n 0, 1) := by decide +kernel
theorem dX1_crowsOn_11 : decode cX1_crowsOn 11 = .ok (.getfield 33, 3) := by decide +kernel
theorem dX1_crowsOn_14 : decode cX1_crowsOn 14 = .ok (.iload_n 1, 1) := by decide +kernel
theorem dX1_crowsOn_15 : decode cX1_crowsOn 15 = .ok (.iconst 4, 1) := by decide +kernel
theorem dX1_crowsOn_16 : decode cX1_crowsOn 16 = .ok (.imul, 1) := by decide +kernel
theorem dX1_crowsOn_17 : decode cX1_crowsOn 17 = .ok (.iload_n 3, 1) := by decide +kernel
theorem dX1_crowsOn_18 : decode cX1_crowsOn 18 = .ok (.iadd, 1) := by decide +kernel
theorem dX1_crowsOn_19 : decode cX1_crowsOn 19 = .ok (.iaload, 1) := by decide +kernel
theorem dX1_crowsOn_20 : decode cX1_crowsOn 20 = .ok (.iadd, 1) := by decide +kernel
theorem dX1_crowsOn_21 : decode cX1_crowsOn 21 = .ok (.istore_n 2, 1) := by decide +kernel
theorem dX1_crowsOn_22 : decode cX1_crowsOn 22 = .ok (.iinc 3 1, 3) := by decide +kernel
theorem dX1_crowsOn_25 : decode cX1_crowsOn 25 = .ok (.goto (-21), 3) := by decide +kernel
theorem dX1_crowsOn_28 : decode cX1_crowsOn 28 = .ok (.iload_n 2, 1) := by decide +kernel
theorem dX1_crowsOn_29 : decode cX1_crowsOn 29 = .ok (.ireturn, 1) := by decide +kernel
theorem dX1_strawAsFloat_0 : decode cX1_strawAsFloat 0 = .ok (.aload_n 0, 1) := by decide +kernel
theorem dX1_strawAsFloat_1 : decode cX1_strawAsFloat 1 = .ok (.getfield 24, 3) := by decide +kernel
theorem dX1_strawAsFloat_4 : decode cX1_strawAsFloat 4 = .ok (.iload_n 1, 1) := by decide +kernel
theorem dX1_strawAsFloat_5 : decode cX1_strawAsFloat 5 = .ok (.iaload, 1) := by decide +kernel
theorem dX1_strawAsFloat_6 : decode cX1_strawAsFloat 6 = .ok (.i2f, 1) := by decide +kernel
theorem dX1_strawAsFloat_7 : decode cX1_strawAsFloat 7 = .ok (.ldc 113, 2) := by decide +kernel
theorem dX1_strawAsFloat_9 : decode cX1_strawAsFloat 9 = .ok (.fdiv, 1) := by decide +kernel
theorem dX1_strawAsFloat_10 : decode cX1_strawAsFloat 10 = .ok (.freturn, 1) := by decide +kernel
theorem dX1_lobbyFor_0 : decode cX1_lobbyFor 0 = .ok (.aload_n 0, 1) := by decide +kernel
theorem dX1_lobbyFor_1 : decode cX1_lobbyFor 1 = .ok (.getfield 33, 3) := by decide +kernel
theorem dX1_lobbyFor_4 : decode cX1_lobbyFor 4 = .ok (.iload_n 1, 1) := by decide +kernel
theorem dX1_lobbyFor_5 : decode cX1_lobbyFor 5 = .ok (.iconst 4, 1) := by decide +kernel
theorem dX1_lobbyFor_6 : decode cX1_lobbyFor 6 = .ok (.imul, 1) := by decide +kernel
theorem dX1_lobbyFor_7 : decode cX1_lobbyFor 7 = .ok (.iload_n 2, 1) := by decide +kernel
theorem dX1_lobbyFor_8 : decode cX1_lobbyFor 8 = .ok (.iadd, 1) := by decide +kernel
theorem dX1_lobbyFor_9 : decode cX1_lobbyFor 9 = .ok (.iaload, 1) := by decide +kernel
theorem dX1_lobbyFor_10 : decode cX1_lobbyFor 10 = .ok (.aload_n 0, 1) := by decide +kernel
theorem dX1_lobbyFor_11 : decode cX1_lobbyFor 11 = .ok (.getfield 39, 3) := by decide +kernel
theorem dX1_lobbyFor_14 : decode cX1_lobbyFor 14 = .ok (.iconst 1, 1) := by decide +kernel
theorem dX1_lobbyFor_15 : decode cX1_lobbyFor 15 = .ok (.iaload, 1) := by decide +kernel
theorem dX1_lobbyFor_16 : decode cX1_lobbyFor 16 = .ok (.imul, 1) := by decide +kernel
theorem dX1_lobbyFor_17 : decode cX1_lobbyFor 17 = .ok (.i2f, 1) := by decide +kernel
theorem dX1_lobbyFor_18 : decode cX1_lobbyFor 18 = .ok (.ldc 114, 2) := by decide +kernel
theorem dX1_lobbyFor_20 : decode cX1_lobbyFor 20 = .ok (.fdiv, 1) := by decide +kernel
theorem dX1_lobbyFor_21 : decode cX1_lobbyFor 21 = .ok (.freturn, 1) := by decide +kernel
theorem dX1_standingIn_0 : decode cX1_standingIn 0 = .ok (.iconst 0, 1) := by decide +kernel
theorem dX1_standingIn_1 : decode cX1_standingIn 1 = .ok (.istore_n 2, 1) := by decide +kernel
theorem dX1_standingIn_2 : decode cX1_standingIn 2 = .ok (.iconst 0, 1) := by decide +kernel
theorem dX1_standingIn_3 : decode cX1_standingIn 3 = .ok (.istore_n 3, 1) := by decide +kernel
theorem dX1_standingIn_4 : decode cX1_standingIn 4 = .ok (.iload_n 3, 1) := by decide +kernel
theorem dX1_standingIn_5 : decode cX1_standingIn 5 = .ok (.aload_n 0, 1) := by decide +kernel
theorem dX1_standingIn_6 : decode cX1_standingIn 6 = .ok (.getfield 53, 3) := by decide +kernel
theorem dX1_standingIn_9 : decode cX1_standingIn 9 = .ok (.if_icmp .ge 25, 3) := by decide +kernel
theorem dX1_standingIn_12 : decode cX1_standingIn 12 = .ok (.aload_n 0, 1) := by decide +kernel
theorem dX1_standingIn_13 : decode cX1_standingIn 13 = .ok (.getfield 9, 3) := by decide +kernel
theorem dX1_standingIn_16 : decode cX1_standingIn 16 = .ok (.iload_n 3, 1) := by decide +kernel
theorem dX1_standingIn_17 : decode cX1_standingIn 17 = .ok (.iaload, 1) := by decide +kernel
theorem dX1_standingIn_18 : decode cX1_standingIn 18 = .ok (.iload_n 1, 1) := by decide +kernel
theorem dX1_standingIn_19 : decode cX1_standingIn 19 = .ok (.if_icmp .ne 9, 3) := by decide +kernel
theorem dX1_standingIn_22 : decode cX1_standingIn 22 = .ok (.iload_n 2, 1) := by decide +kernel
theorem dX1_standingIn_23 : decode cX1_standingIn 23 = .ok (.iconst 1, 1) := by decide +kernel
theorem dX1_standingIn_24 : decode cX1_standingIn 24 = .ok (.iload_n 3, 1) := by decide +kernel
theorem dX1_standingIn_25 : decode cX1_standingIn 25 = .ok (.ishl, 1) := by decide +kernel
theorem dX1_standingIn_26 : decode cX1_standingIn 26 = .ok (.ior, 1) := by decide +kernel
theorem dX1_standingIn_27 : decode cX1_standingIn 27 = .ok (.istore_n 2, 1) := by decide +kernel
theorem dX1_standingIn_28 : decode cX1_standingIn 28 = .ok (.iinc 3 1, 3) := by decide +kernel
theorem dX1_standingIn_31 : decode cX1_standingIn 31 = .ok (.goto (-27), 3) := by decide +kernel
theorem dX1_standingIn_34 : decode cX1_standingIn 34 = .ok (.iload_n 2, 1) := by decide +kernel
theorem dX1_standingIn_35 : decode cX1_standingIn 35 = .ok (.ireturn, 1) := by decide +kernel
theorem dX1_tellScarecrow_0 : decode cX1_tellScarecrow 0 = .ok (.aload_n 0, 1) := by decide +kernel
theorem dX1_tellScarecrow_1 : decode cX1_tellScarecrow 1 = .ok (.iload_n 1, 1) := by decide +kernel
theorem dX1_tellScarecrow_2 : decode cX1_tellScarecrow 2 = .ok (.invokevirtual 79, 3) := by decide +kernel
theorem dX1_tellScarecrow_5 : decode cX1_tellScarecrow 5 = .ok (.ifCond .ne 5, 3) := by decide +kernel
theorem dX1_tellScarecrow_8 : decode cX1_tellScarecrow 8 = .ok (.iconst (-1), 1) := by decide +kernel
theorem dX1_tellScarecrow_9 : decode cX1_tellScarecrow 9 = .ok (.ireturn, 1) := by decide +kernel
theorem dX1_tellScarecrow_10 : decode cX1_tellScarecrow 10 = .ok (.iload_n 2, 1) := by decide +kernel
theorem dX1_tellScarecrow_11 : decode cX1_tellScarecrow 11 = .ok (.tableswitch 118 0 10 #[57, 64, 71, 78, 85, 91, 91, 91, 91, 104, 111], 57) := by decide +kernel
theorem dX1_tellScarecrow_68 : decode cX1_tellScarecrow 68 = .ok (.aload_n 0, 1) := by decide +kernel
theorem dX1_tellScarecrow_69 : decode cX1_tellScarecrow 69 = .ok (.getfield 9, 3) := by decide +kernel
theorem dX1_tellScarecrow_72 : decode cX1_tellScarecrow 72 = .ok (.iload_n 1, 1) := by decide +kernel
theorem dX1_tellScarecrow_73 : decode cX1_tellScarecrow 73 = .ok (.iaload, 1) := by decide +kernel
theorem dX1_tellScarecrow_74 : decode cX1_tellScarecrow 74 = .ok (.ireturn, 1) := by decide +kernel
theorem dX1_tellScarecrow_75 : decode cX1_tellScarecrow 75 = .ok (.aload_n 0, 1) := by decide +kernel
theorem dX1_tellScarecrow_76 : decode cX1_tellScarecrow 76 = .ok (.getfield 15, 3) := by decide +kernel
theorem dX1_tellScarecrow_79 : decode cX1_tellScarecrow 79 = .ok (.iload_n 1, 1) := by decide +kernel
theorem dX1_tellScarecrow_80 : decode cX1_tellScarecrow 80 = .ok (.iaload, 1) := by decide +kernel
theorem dX1_tellScarecrow_81 : decode cX1_tellScarecrow 81 = .ok (.ireturn, 1) := by decide +kernel
theorem dX1_tellScarecrow_82 : decode cX1_tellScarecrow 82 = .ok (.aload_n 0, 1) := by decide +kernel
theorem dX1_tellScarecrow_83 : decode cX1_tellScarecrow 83 = .ok (.getfield 18, 3) := by decide +kernel
theorem dX1_tellScarecrow_86 : decode cX1_tellScarecrow 86 = .ok (.iload_n 1, 1) := by decide +kernel
theorem dX1_tellScarecrow_87 : decode cX1_tellScarecrow 87 = .ok (.iaload, 1) := by decide +kernel
theorem dX1_tellScarecrow_88 : decode cX1_tellScarecrow 88 = .ok (.ireturn, 1) := by decide +kernel
theorem dX1_tellScarecrow_89 : decode cX1_tellScarecrow 89 = .ok (.aload_n 0, 1) := by decide +kernel
theorem dX1_tellScarecrow_90 : decode cX1_tellScarecrow 90 = .ok (.getfield 21, 3) := by decide +kernel
theorem dX1_tellScarecrow_93 : decode cX1_tellScarecrow 93 = .ok (.iload_n 1, 1) := by decide +kernel
theorem dX1_tellScarecrow_94 : decode cX1_tellScarecrow 94 = .ok (.iaload, 1) := by decide +kernel
theorem dX1_tellScarecrow_95 : decode cX1_tellScarecrow 95 = .ok (.ireturn, 1) := by decide +kernel
theorem dX1_tellScarecrow_96 : decode cX1_tellScarecrow 96 = .ok (.aload_n 0, 1) := by decide +kernel
theorem dX1_tellScarecrow_97 : decode cX1_tellScarecrow 97 = .ok (.iload_n 1, 1) := by decide +kernel
theorem dX1_tellScarecrow_98 : decode cX1_tellScarecrow 98 = .ok (.invokevirtual 82, 3) := by decide +kernel
theorem dX1_tellScarecrow_101 : decode cX1_tellScarecrow 101 = .ok (.ireturn, 1) := by decide +kernel
theorem dX1_tellScarecrow_102 : decode cX1_tellScarecrow 102 = .ok (.aload_n 0, 1) := by decide +kernel
theorem dX1_tellScarecrow_103 : decode cX1_tellScarecrow 103 = .ok (.getfield 33, 3) := by decide +kernel
theorem dX1_tellScarecrow_106 : decode cX1_tellScarecrow 106 = .ok (.iload_n 1, 1) := by decide +kernel
theorem dX1_tellScarecrow_107 : decode cX1_tellScarecrow 107 = .ok (.iconst 4, 1) := by decide +kernel
theorem dX1_tellScarecrow_108 : decode cX1_tellScarecrow 108 = .ok (.imul, 1) := by decide +kernel
theorem dX1_tellScarecrow_109 : decode cX1_tellScarecrow 109 = .ok (.iload_n 2, 1) := by decide +kernel
theorem dX1_tellScarecrow_110 : decode cX1_tellScarecrow 110 = .ok (.iadd, 1) := by decide +kernel
theorem dX1_tellScarecrow_111 : decode cX1_tellScarecrow 111 = .ok (.iconst 5, 1) := by decide +kernel
theorem dX1_tellScarecrow_112 : decode cX1_tellScarecrow 112 = .ok (.isub, 1) := by decide +kernel
theorem dX1_tellScarecrow_113 : decode cX1_tellScarecrow 113 = .ok (.iaload, 1) := by decide +kernel
theorem dX1_tellScarecrow_114 : decode cX1_tellScarecrow 114 = .ok (.ireturn, 1) := by decide +kernel
theorem dX1_tellScarecrow_115 : decode cX1_tellScarecrow 115 = .ok (.aload_n 0, 1) := by decide +kernel
theorem dX1_tellScarecrow_116 : decode cX1_tellScarecrow 116 = .ok (.getfield 27, 3) := by decide +kernel
theorem dX1_tellScarecrow_119 : decode cX1_tellScarecrow 119 = .ok (.iload_n 1, 1) := by decide +kernel
theorem dX1_tellScarecrow_120 : decode cX1_tellScarecrow 120 = .ok (.iaload, 1) := by decide +kernel
theorem dX1_tellScarecrow_121 : decode cX1_tellScarecrow 121 = .ok (.ireturn, 1) := by decide +kernel
theorem dX1_tellScarecrow_122 : decode cX1_tellScarecrow 122 = .ok (.aload_n 0, 1) := by decide +kernel
theorem dX1_tellScarecrow_123 : decode cX1_tellScarecrow 123 = .ok (.getfield 30, 3) := by decide +kernel
theorem dX1_tellScarecrow_126 : decode cX1_tellScarecrow 126 = .ok (.iload_n 1, 1) := by decide +kernel
theorem dX1_tellScarecrow_127 : decode cX1_tellScarecrow 127 = .ok (.iaload, 1) := by decide +kernel
theorem dX1_tellScarecrow_128 : decode cX1_tellScarecrow 128 = .ok (.ireturn, 1) := by decide +kernel
theorem dX1_tellScarecrow_129 : decode cX1_tellScarecrow 129 = .ok (.bipush (-2), 2) := by decide +kernel
theorem dX1_tellScarecrow_131 : decode cX1_tellScarecrow 131 = .ok (.ireturn, 1) := by decide +kernel
theorem dX1_tellCount_0 : decode cX1_tellCount 0 = .ok (.iload_n 1, 1) := by decide +kernel
theorem dX1_tellCount_1 : decode cX1_tellCount 1 = .ok (.tableswitch 160 0 13 #[71, 76, 81, 89, 94, 99, 104, 112, 120, 128, 133, 138, 146, 153], 71) := by decide +kernel
theorem dX1_tellCount_72 : decode cX1_tellCount 72 = .ok (.aload_n 0, 1) := by decide +kernel
theorem dX1_tellCount_73 : decode cX1_tellCount 73 = .ok (.getfield 62, 3) := by decide +kernel
theorem dX1_tellCount_76 : decode cX1_tellCount 76 = .ok (.ireturn, 1) := by decide +kernel
theorem dX1_tellCount_77 : decode cX1_tellCount 77 = .ok (.aload_n 0, 1) := by decide +kernel
theorem dX1_tellCount_78 : decode cX1_tellCount 78 = .ok (.getfield 53, 3) := by decide +kernel
theorem dX1_tellCount_81 : decode cX1_tellCount 81 = .ok (.ireturn, 1) := by decide +kernel
theorem dX1_tellCount_82 : decode cX1_tellCount 82 = .ok (.aload_n 0, 1) := by decide +kernel
theorem dX1_tellCount_83 : decode cX1_tellCount 83 = .ok (.getfield 33, 3) := by decide +kernel
theorem dX1_tellCount_86 : decode cX1_tellCount 86 = .ok (.invokestatic 115, 3) := by decide +kernel
theorem dX1_tellCount_89 : decode cX1_tellCount 89 = .ok (.ireturn, 1) := by decide +kernel
theorem dX1_tellCount_90 : decode cX1_tellCount 90 = .ok (.aload_n 0, 1) := by decide +kernel
theorem dX1_tellCount_91 : decode cX1_tellCount 91 = .ok (.getfield 56, 3) := by decide +kernel
theorem dX1_tellCount_94 : decode cX1_tellCount 94 = .ok (.ireturn, 1) := by decide +kernel
theorem dX1_tellCount_95 : decode cX1_tellCount 95 = .ok (.aload_n 0, 1) := by decide +kernel
theorem dX1_tellCount_96 : decode cX1_tellCount 96 = .ok (.getfield 59, 3) := by decide +kernel
theorem dX1_tellCount_99 : decode cX1_tellCount 99 = .ok (.ireturn, 1) := by decide +kernel
theorem dX1_tellCount_100 : decode cX1_tellCount 100 = .ok (.aload_n 0, 1) := by decide +kernel
theorem dX1_tellCount_101 : decode cX1_tellCount 101 = .ok (.getfield 42, 3) := by decide +kernel
theorem dX1_tellCount_104 : decode cX1_tellCount 104 = .ok (.ireturn, 1) := by decide +kernel
theorem dX1_tellCount_105 : decode cX1_tellCount 105 = .ok (.aload_n 0, 1) := by decide +kernel
theorem dX1_tellCount_106 : decode cX1_tellCount 106 = .ok (.getfield 24, 3) := by decide +kernel
theorem dX1_tellCount_109 : decode cX1_tellCount 109 = .ok (.invokestatic 115, 3) := by decide +kernel
theorem dX1_tellCount_112 : decode cX1_tellCount 112 = .ok (.ireturn, 1) := by decide +kernel
theorem dX1_tellCount_113 : decode cX1_tellCount 113 = .ok (.aload_n 0, 1) := by decide +kernel
theorem dX1_tellCount_114 : decode cX1_tellCount 114 = .ok (.getfield 30, 3) := by decide +kernel
theorem dX1_tellCount_117 : decode cX1_tellCount 117 = .ok (.invokestatic 115, 3) := by decide +kernel
theorem dX1_tellCount_120 : decode cX1_tellCount 120 = .ok (.ireturn, 1) := by decide +kernel
theorem dX1_tellCount_121 : decode cX1_tellCount 121 = .ok (.aload_n 0, 1) := by decide +kernel
theorem dX1_tellCount_122 : decode cX1_tellCount 122 = .ok (.getfield 27, 3) := by decide +kernel
theorem dX1_tellCount_125 : decode cX1_tellCount 125 = .ok (.invokestatic 115, 3) := by decide +kernel
theorem dX1_tellCount_128 : decode cX1_tellCount 128 = .ok (.ireturn, 1) := by decide +kernel
theorem dX1_tellCount_129 : decode cX1_tellCount 129 = .ok (.aload_n 0, 1) := by decide +kernel
theorem dX1_tellCount_130 : decode cX1_tellCount 130 = .ok (.getfield 65, 3) := by decide +kernel
theorem dX1_tellCount_133 : decode cX1_tellCount 133 = .ok (.ireturn, 1) := by decide +kernel
theorem dX1_tellCount_134 : decode cX1_tellCount 134 = .ok (.aload_n 0, 1) := by decide +kernel
theorem dX1_tellCount_135 : decode cX1_tellCount 135 = .ok (.getfield 46, 3) := by decide +kernel
theorem dX1_tellCount_138 : decode cX1_tellCount 138 = .ok (.ireturn, 1) := by decide +kernel
theorem dX1_tellCount_139 : decode cX1_tellCount 139 = .ok (.aload_n 0, 1) := by decide +kernel
theorem dX1_tellCount_140 : decode cX1_tellCount 140 = .ok (.getfield 36, 3) := by decide +kernel
theorem dX1_tellCount_143 : decode cX1_tellCount 143 = .ok (.invokestatic 115, 3) := by decide +kernel
theorem dX1_tellCount_146 : decode cX1_tellCount 146 = .ok (.ireturn, 1) := by decide +kernel
theorem dX1_tellCount_147 : decode cX1_tellCount 147 = .ok (.aload_n 0, 1) := by decide +kernel
theorem dX1_tellCount_148 : decode cX1_tellCount 148 = .ok (.getfield 39, 3) := by decide +kernel
theorem dX1_tellCount_151 : decode cX1_tellCount 151 = .ok (.iconst 0, 1) := by decide +kernel
theorem dX1_tellCount_152 : decode cX1_tellCount 152 = .ok (.iaload, 1) := by decide +kernel
theorem dX1_tellCount_153 : decode cX1_tellCount 153 = .ok (.ireturn, 1) := by decide +kernel
theorem dX1_tellCount_154 : decode cX1_tellCount 154 = .ok (.aload_n 0, 1) := by decide +kernel
theorem dX1_tellCount_155 : decode cX1_tellCount 155 = .ok (.getfield 39, 3) := by decide +kernel
theorem dX1_tellCount_158 : decode cX1_tellCount 158 = .ok (.iconst 1, 1) := by decide +kernel
theorem dX1_tellCount_159 : decode cX1_tellCount 159 = .ok (.iaload, 1) := by decide +kernel
theorem dX1_tellCount_160 : decode cX1_tellCount 160 = .ok (.ireturn, 1) := by decide +kernel
theorem dX1_tellCount_161 : decode cX1_tellCount 161 = .ok (.bipush (-2), 2) := by decide +kernel
theorem dX1_tellCount_163 : decode cX1_tellCount 163 = .ok (.ireturn, 1) := by decide +kernel
theorem dX2_init_0 : decode cX2_init 0 = .ok (.aload_n 0, 1) := by decide +kernel
theorem dX2_init_1 : decode cX2_init 1 = .ok (.invokespecial 3, 3) := by decide +kernel
theorem dX2_init_4 : decode cX2_init 4 = .ok (.aload_n 0, 1) := by decide +kernel
theorem dX2_init_5 : decode cX2_init 5 = .ok (.iconst 4, 1) := by decide +kernel
theorem dX2_init_6 : decode cX2_init 6 = .ok (.anewarray 9, 3) := by decide +kernel
theorem dX2_init_9 : decode cX2_init 9 = .ok (.putfield 11, 3) := by decide +kernel
theorem dX2_init_12 : decode cX2_init 12 = .ok (.iconst 0, 1) := by decide +kernel
theorem dX2_init_13 : decode cX2_init 13 = .ok (.istore_n 1, 1) := by decide +kernel
theorem dX2_init_14 : decode cX2_init 14 = .ok (.iload_n 1, 1) := by decide +kernel
theorem dX2_init_15 : decode cX2_init 15 = .ok (.iconst 4, 1) := by decide +kernel
theorem dX2_init_16 : decode cX2_init 16 = .ok (.if_icmp .ge 22, 3) := by decide +kernel
theorem dX2_init_19 : decode cX2_init 19 = .ok (.aload_n 0, 1) := by decide +kernel
theorem dX2_init_20 : decode cX2_init 20 = .ok (.getfield 11, 3) := by decide +kernel
theorem dX2_init_23 : decode cX2_init 23 = .ok (.iload_n 1, 1) := by decide +kernel
theorem dX2_init_24 : decode cX2_init 24 = .ok (.new 9, 3) := by decide +kernel
theorem dX2_init_27 : decode cX2_init 27 = .ok (.dup, 1) := by decide +kernel
theorem dX2_init_28 : decode cX2_init 28 = .ok (.invokespecial 17, 3) := by decide +kernel
theorem dX2_init_31 : decode cX2_init 31 = .ok (.aastore, 1) := by decide +kernel
theorem dX2_init_32 : decode cX2_init 32 = .ok (.iinc 1 1, 3) := by decide +kernel
theorem dX2_init_35 : decode cX2_init 35 = .ok (.goto (-21), 3) := by decide +kernel
theorem dX2_init_38 : decode cX2_init 38 = .ok (.return_, 1) := by decide +kernel
theorem dX2_remember_0 : decode cX2_remember 0 = .ok (.aload_n 0, 1) := by decide +kernel
theorem dX2_remember_1 : decode cX2_remember 1 = .ok (.getfield 18, 3) := by decide +kernel
theorem dX2_remember_4 : decode cX2_remember 4 = .ok (.iconst 4, 1) := by decide +kernel
theorem dX2_remember_5 : decode cX2_remember 5 = .ok (.if_icmp .lt 7, 3) := by decide +kernel
theorem dX2_remember_8 : decode cX2_remember 8 = .ok (.aload_n 0, 1) := by decide +kernel
theorem dX2_remember_9 : decode cX2_remember 9 = .ok (.invokevirtual 22, 3) := by decide +kernel
theorem dX2_remember_12 : decode cX2_remember 12 = .ok (.aload_n 0, 1) := by decide +kernel
theorem dX2_remember_13 : decode cX2_remember 13 = .ok (.getfield 11, 3) := by decide +kernel
theorem dX2_remember_16 : decode cX2_remember 16 = .ok (.aload_n 0, 1) := by decide +kernel
theorem dX2_remember_17 : decode cX2_remember 17 = .ok (.getfield 18, 3) := by decide +kernel
theorem dX2_remember_20 : decode cX2_remember 20 = .ok (.aaload, 1) := by decide +kernel
theorem dX2_remember_21 : decode cX2_remember 21 = .ok (.aload_n 1, 1) := by decide +kernel
theorem dX2_remember_22 : decode cX2_remember 22 = .ok (.invokevirtual 25, 3) := by decide +kernel
theorem dX2_remember_25 : decode cX2_remember 25 = .ok (.aload_n 0, 1) := by decide +kernel
theorem dX2_remember_26 : decode cX2_remember 26 = .ok (.dup, 1) := by decide +kernel
theorem dX2_remember_27 : decode cX2_remember 27 = .ok (.getfield 18, 3) := by decide +kernel
theorem dX2_remember_30 : decode cX2_remember 30 = .ok (.iconst 1, 1) := by decide +kernel
theorem dX2_remember_31 : decode cX2_remember 31 = .ok (.iadd, 1) := by decide +kernel
theorem dX2_remember_32 : decode cX2_remember 32 = .ok (.putfield 18, 3) := by decide +kernel
theorem dX2_remember_35 : decode cX2_remember 35 = .ok (.return_, 1) := by decide +kernel
theorem dX2_dropOldest_0 : decode cX2_dropOldest 0 = .ok (.aload_n 0, 1) := by decide +kernel
theorem dX2_dropOldest_1 : decode cX2_dropOldest 1 = .ok (.getfield 11, 3) := by decide +kernel
theorem dX2_dropOldest_4 : decode cX2_dropOldest 4 = .ok (.iconst 0, 1) := by decide +kernel
theorem dX2_dropOldest_5 : decode cX2_dropOldest 5 = .ok (.aaload, 1) := by decide +kernel
theorem dX2_dropOldest_6 : decode cX2_dropOldest 6 = .ok (.astore_n 1, 1) := by decide +kernel
theorem dX2_dropOldest_7 : decode cX2_dropOldest 7 = .ok (.iconst 1, 1) := by decide +kernel
theorem dX2_dropOldest_8 : decode cX2_dropOldest 8 = .ok (.istore_n 2, 1) := by decide +kernel
theorem dX2_dropOldest_9 : decode cX2_dropOldest 9 = .ok (.iload_n 2, 1) := by decide +kernel
theorem dX2_dropOldest_10 : decode cX2_dropOldest 10 = .ok (.iconst 4, 1) := by decide +kernel
theorem dX2_dropOldest_11 : decode cX2_dropOldest 11 = .ok (.if_icmp .ge 23, 3) := by decide +kernel
theorem dX2_dropOldest_14 : decode cX2_dropOldest 14 = .ok (.aload_n 0, 1) := by decide +kernel
theorem dX2_dropOldest_15 : decode cX2_dropOldest 15 = .ok (.getfield 11, 3) := by decide +kernel
theorem dX2_dropOldest_18 : decode cX2_dropOldest 18 = .ok (.iload_n 2, 1) := by decide +kernel
theorem dX2_dropOldest_19 : decode cX2_dropOldest 19 = .ok (.iconst 1, 1) := by decide +kernel
theorem dX2_dropOldest_20 : decode cX2_dropOldest 20 = .ok (.isub, 1) := by decide +kernel
theorem dX2_dropOldest_21 : decode cX2_dropOldest 21 = .ok (.aload_n 0, 1) := by decide +kernel
theorem dX2_dropOldest_22 : decode cX2_dropOldest 22 = .ok (.getfield 11, 3) := by decide +kernel
theorem dX2_dropOldest_25 : decode cX2_dropOldest 25 = .ok (.iload_n 2, 1) := by decide +kernel
theorem dX2_dropOldest_26 : decode cX2_dropOldest 26 = .ok (.aaload, 1) := by decide +kernel
theorem dX2_dropOldest_27 : decode cX2_dropOldest 27 = .ok (.aastore, 1) := by decide +kernel
theorem dX2_dropOldest_28 : decode cX2_dropOldest 28 = .ok (.iinc 2 1, 3) := by decide +kernel
theorem dX2_dropOldest_31 : decode cX2_dropOldest 31 = .ok (.goto (-22), 3) := by decide +kernel
theorem dX2_dropOldest_34 : decode cX2_dropOldest 34 = .ok (.aload_n 0, 1) := by decide +kernel
theorem dX2_dropOldest_35 : decode cX2_dropOldest 35 = .ok (.getfield 11, 3) := by decide +kernel
theorem dX2_dropOldest_38 : decode cX2_dropOldest 38 = .ok (.iconst 3, 1) := by decide +kernel
theorem dX2_dropOldest_39 : decode cX2_dropOldest 39 = .ok (.aload_n 1, 1) := by decide +kernel
theorem dX2_dropOldest_40 : decode cX2_dropOldest 40 = .ok (.aastore, 1) := by decide +kernel
theorem dX2_dropOldest_41 : decode cX2_dropOldest 41 = .ok (.aload_n 0, 1) := by decide +kernel
theorem dX2_dropOldest_42 : decode cX2_dropOldest 42 = .ok (.iconst 3, 1) := by decide +kernel
theorem dX2_dropOldest_43 : decode cX2_dropOldest 43 = .ok (.putfield 18, 3) := by decide +kernel
theorem dX2_dropOldest_46 : decode cX2_dropOldest 46 = .ok (.return_, 1) := by decide +kernel
theorem dX2_bringBack_0 : decode cX2_bringBack 0 = .ok (.aload_n 0, 1) := by decide +kernel
theorem dX2_bringBack_1 : decode cX2_bringBack 1 = .ok (.getfield 18, 3) := by decide +kernel
theorem dX2_bringBack_4 : decode cX2_bringBack 4 = .ok (.ifCond .gt 6, 3) := by decide +kernel
theorem dX2_bringBack_7 : decode cX2_bringBack 7 = .ok (.bipush (-5), 2) := by decide +kernel
theorem dX2_bringBack_9 : decode cX2_bringBack 9 = .ok (.ireturn, 1) := by decide +kernel
theorem dX2_bringBack_10 : decode cX2_bringBack 10 = .ok (.aload_n 0, 1) := by decide +kernel
theorem dX2_bringBack_11 : decode cX2_bringBack 11 = .ok (.dup, 1) := by decide +kernel
theorem dX2_bringBack_12 : decode cX2_bringBack 12 = .ok (.getfield 18, 3) := by decide +kernel
theorem dX2_bringBack_15 : decode cX2_bringBack 15 = .ok (.iconst 1, 1) := by decide +kernel
theorem dX2_bringBack_16 : decode cX2_bringBack 16 = .ok (.isub, 1) := by decide +kernel
theorem dX2_bringBack_17 : decode cX2_bringBack 17 = .ok (.putfield 18, 3) := by decide +kernel
theorem dX2_bringBack_20 : decode cX2_bringBack 20 = .ok (.aload_n 1, 1) := by decide +kernel
theorem dX2_bringBack_21 : decode cX2_bringBack 21 = .ok (.aload_n 0, 1) := by decide +kernel
theorem dX2_bringBack_22 : decode cX2_bringBack 22 = .ok (.getfield 11, 3) := by decide +kernel
theorem dX2_bringBack_25 : decode cX2_bringBack 25 = .ok (.aload_n 0, 1) := by decide +kernel
theorem dX2_bringBack_26 : decode cX2_bringBack 26 = .ok (.getfield 18, 3) := by decide +kernel
theorem dX2_bringBack_29 : decode cX2_bringBack 29 = .ok (.aaload, 1) := by decide +kernel
theorem dX2_bringBack_30 : decode cX2_bringBack 30 = .ok (.invokevirtual 25, 3) := by decide +kernel
theorem dX2_bringBack_33 : decode cX2_bringBack 33 = .ok (.aload_n 0, 1) := by decide +kernel
theorem dX2_bringBack_34 : decode cX2_bringBack 34 = .ok (.getfield 18, 3) := by decide +kernel
theorem dX2_bringBack_37 : decode cX2_bringBack 37 = .ok (.ireturn, 1) := by decide +kernel
theorem dX3_init_0 : decode cX3_init 0 = .ok (.aload_n 0, 1) := by decide +kernel
theorem dX3_init_1 : decode cX3_init 1 = .ok (.invokespecial 3, 3) := by decide +kernel
theorem dX3_init_4 : decode cX3_init 4 = .ok (.aload_n 0, 1) := by decide +kernel
theorem dX3_init_5 : decode cX3_init 5 = .ok (.bipush 60, 2) := by decide +kernel
theorem dX3_init_7 : decode cX3_init 7 = .ok (.newarray .char, 2) := by decide +kernel
theorem dX3_init_9 : decode cX3_init 9 = .ok (.putfield 9, 3) := by decide +kernel
theorem dX3_init_12 : decode cX3_init 12 = .ok (.aload_n 0, 1) := by decide +kernel
theorem dX3_init_13 : decode cX3_init 13 = .ok (.bipush 30, 2) := by decide +kernel
theorem dX3_init_15 : decode cX3_init 15 = .ok (.newarray .int, 2) := by decide +kernel
theorem dX3_init_17 : decode cX3_init 17 = .ok (.putfield 15, 3) := by decide +kernel
theorem dX3_init_20 : decode cX3_init 20 = .ok (.aload_n 0, 1) := by decide +kernel
theorem dX3_init_21 : decode cX3_init 21 = .ok (.bipush 30, 2) := by decide +kernel
theorem dX3_init_23 : decode cX3_init 23 = .ok (.newarray .int, 2) := by decide +kernel
theorem dX3_init_25 : decode cX3_init 25 = .ok (.putfield 19, 3) := by decide +kernel
theorem dX3_init_28 : decode cX3_init 28 = .ok (.aload_n 0, 1) := by decide +kernel
theorem dX3_init_29 : decode cX3_init 29 = .ok (.bipush 30, 2) := by decide +kernel
theorem dX3_init_31 : decode cX3_init 31 = .ok (.newarray .int, 2) := by decide +kernel
theorem dX3_init_33 : decode cX3_init 33 = .ok (.putfield 22, 3) := by decide +kernel
theorem dX3_init_36 : decode cX3_init 36 = .ok (.return_, 1) := by decide +kernel
theorem dX4_init_0 : decode cX4_init 0 = .ok (.aload_n 0, 1) := by decide +kernel
theorem dX4_init_1 : decode cX4_init 1 = .ok (.invokespecial 1, 3) := by decide +kernel
theorem dX4_init_4 : decode cX4_init 4 = .ok (.aload_n 0, 1) := by decide +kernel
theorem dX4_init_5 : decode cX4_init 5 = .ok (.new 7, 3) := by decide +kernel
theorem dX4_init_8 : decode cX4_init 8 = .ok (.dup, 1) := by decide +kernel
theorem dX4_init_9 : decode cX4_init 9 = .ok (.invokespecial 9, 3) := by decide +kernel
theorem dX4_init_12 : decode cX4_init 12 = .ok (.putfield 10, 3) := by decide +kernel
theorem dX4_init_15 : decode cX4_init 15 = .ok (.aload_n 0, 1) := by decide +kernel
theorem dX4_init_16 : decode cX4_init 16 = .ok (.new 7, 3) := by decide +kernel
theorem dX4_init_19 : decode cX4_init 19 = .ok (.dup, 1) := by decide +kernel
theorem dX4_init_20 : decode cX4_init 20 = .ok (.invokespecial 9, 3) := by decide +kernel
theorem dX4_init_23 : decode cX4_init 23 = .ok (.putfield 16, 3) := by decide +kernel
theorem dX4_init_26 : decode cX4_init 26 = .ok (.aload_n 0, 1) := by decide +kernel
theorem dX4_init_27 : decode cX4_init 27 = .ok (.new 7, 3) := by decide +kernel
theorem dX4_init_30 : decode cX4_init 30 = .ok (.dup, 1) := by decide +kernel
theorem dX4_init_31 : decode cX4_init 31 = .ok (.invokespecial 9, 3) := by decide +kernel
theorem dX4_init_34 : decode cX4_init 34 = .ok (.putfield 19, 3) := by decide +kernel
theorem dX4_init_37 : decode cX4_init 37 = .ok (.aload_n 0, 1) := by decide +kernel
theorem dX4_init_38 : decode cX4_init 38 = .ok (.new 7, 3) := by decide +kernel
theorem dX4_init_41 : decode cX4_init 41 = .ok (.dup, 1) := by decide +kernel
theorem dX4_init_42 : decode cX4_init 42 = .ok (.invokespecial 9, 3) := by decide +kernel
theorem dX4_init_45 : decode cX4_init 45 = .ok (.putfield 22, 3) := by decide +kernel
theorem dX4_init_48 : decode cX4_init 48 = .ok (.aload_n 0, 1) := by decide +kernel
theorem dX4_init_49 : decode cX4_init 49 = .ok (.new 25, 3) := by decide +kernel
theorem dX4_init_52 : decode cX4_init 52 = .ok (.dup, 1) := by decide +kernel
theorem dX4_init_53 : decode cX4_init 53 = .ok (.invokespecial 27, 3) := by decide +kernel
theorem dX4_init_56 : decode cX4_init 56 = .ok (.putfield 28, 3) := by decide +kernel
theorem dX4_init_59 : decode cX4_init 59 = .ok (.aload_n 0, 1) := by decide +kernel
theorem dX4_init_60 : decode cX4_init 60 = .ok (.new 32, 3) := by decide +kernel
theorem dX4_init_63 : decode cX4_init 63 = .ok (.dup, 1) := by decide +kernel
theorem dX4_init_64 : decode cX4_init 64 = .ok (.invokespecial 34, 3) := by decide +kernel
theorem dX4_init_67 : decode cX4_init 67 = .ok (.putfield 35, 3) := by decide +kernel
theorem dX4_init_70 : decode cX4_init 70 = .ok (.aload_n 0, 1) := by decide +kernel
theorem dX4_init_71 : decode cX4_init 71 = .ok (.new 39, 3) := by decide +kernel
theorem dX4_init_74 : decode cX4_init 74 = .ok (.dup, 1) := by decide +kernel
theorem dX4_init_75 : decode cX4_init 75 = .ok (.iconst 1, 1) := by decide +kernel
theorem dX4_init_76 : decode cX4_init 76 = .ok (.invokespecial 41, 3) := by decide +kernel
theorem dX4_init_79 : decode cX4_init 79 = .ok (.putfield 44, 3) := by decide +kernel
theorem dX4_init_82 : decode cX4_init 82 = .ok (.aload_n 0, 1) := by decide +kernel
theorem dX4_init_83 : decode cX4_init 83 = .ok (.new 39, 3) := by decide +kernel
theorem dX4_init_86 : decode cX4_init 86 = .ok (.dup, 1) := by decide +kernel
theorem dX4_init_87 : decode cX4_init 87 = .ok (.iconst 0, 1) := by decide +kernel
theorem dX4_init_88 : decode cX4_init 88 = .ok (.invokespecial 41, 3) := by decide +kernel
theorem dX4_init_91 : decode cX4_init 91 = .ok (.putfield 48, 3) := by decide +kernel
theorem dX4_init_94 : decode cX4_init 94 = .ok (.aload_n 0, 1) := by decide +kernel
theorem dX4_init_95 : decode cX4_init 95 = .ok (.bipush (-5), 2) := by decide +kernel
theorem dX4_init_97 : decode cX4_init 97 = .ok (.putfield 51, 3) := by decide +kernel
theorem dX4_init_100 : decode cX4_init 100 = .ok (.aload_n 0, 1) := by decide +kernel
theorem dX4_init_101 : decode cX4_init 101 = .ok (.bipush (-5), 2) := by decide +kernel
theorem dX4_init_103 : decode cX4_init 103 = .ok (.putfield 55, 3) := by decide +kernel
theorem dX4_init_106 : decode cX4_init 106 = .ok (.return_, 1) := by decide +kernel
theorem dX4_setUp_0 : decode cX4_setUp 0 = .ok (.aload_n 0, 1) := by decide +kernel
theorem dX4_setUp_1 : decode cX4_setUp 1 = .ok (.getfield 16, 3) := by decide +kernel
theorem dX4_setUp_4 : decode cX4_setUp 4 = .ok (.aload_n 0, 1) := by decide +kernel
theorem dX4_setUp_5 : decode cX4_setUp 5 = .ok (.getfield 10, 3) := by decide +kernel
theorem dX4_setUp_8 : decode cX4_setUp 8 = .ok (.invokevirtual 58, 3) := by decide +kernel
theorem dX4_setUp_11 : decode cX4_setUp 11 = .ok (.aload_n 0, 1) := by decide +kernel
theorem dX4_setUp_12 : decode cX4_setUp 12 = .ok (.aload_n 0, 1) := by decide +kernel
theorem dX4_setUp_13 : decode cX4_setUp 13 = .ok (.getfield 10, 3) := by decide +kernel
theorem dX4_setUp_16 : decode cX4_setUp 16 = .ok (.iload_n 1, 1) := by decide +kernel
theorem dX4_setUp_17 : decode cX4_setUp 17 = .ok (.iload_n 2, 1) := by decide +kernel
theorem dX4_setUp_18 : decode cX4_setUp 18 = .ok (.iload_n 3, 1) := by decide +kernel
theorem dX4_setUp_19 : decode cX4_setUp 19 = .ok (.iload 4, 2) := by decide +kernel
theorem dX4_setUp_21 : decode cX4_setUp 21 = .ok (.invokevirtual 62, 3) := by decide +kernel
theorem dX4_setUp_24 : decode cX4_setUp 24 = .ok (.invokevirtual 66, 3) := by decide +kernel
theorem dX4_setUp_27 : decode cX4_setUp 27 = .ok (.ireturn, 1) := by decide +kernel
theorem dX4_carry_0 : decode cX4_carry 0 = .ok (.aload_n 0, 1) := by decide +kernel
theorem dX4_carry_1 : decode cX4_carry 1 = .ok (.getfield 16, 3) := by decide +kernel
theorem dX4_carry_4 : decode cX4_carry 4 = .ok (.aload_n 0, 1) := by decide +kernel
theorem dX4_carry_5 : decode cX4_carry 5 = .ok (.getfield 10, 3) := by decide +kernel
theorem dX4_carry_8 : decode cX4_carry 8 = .ok (.invokevirtual 58, 3) := by decide +kernel
theorem dX4_carry_11 : decode cX4_carry 11 = .ok (.aload_n 0, 1) := by decide +kernel
theorem dX4_carry_12 : decode cX4_carry 12 = .ok (.aload_n 0, 1) := by decide +kernel
theorem dX4_carry_13 : decode cX4_carry 13 = .ok (.getfield 10, 3) := by decide +kernel
theorem dX4_carry_16 : decode cX4_carry 16 = .ok (.iload_n 1, 1) := by decide +kernel
theorem dX4_carry_17 : decode cX4_carry 17 = .ok (.iload_n 2, 1) := by decide +kernel
theorem dX4_carry_18 : decode cX4_carry 18 = .ok (.invokevirtual 70, 3) := by decide +kernel
theorem dX4_carry_21 : decode cX4_carry 21 = .ok (.invokevirtual 66, 3) := by decide +kernel
theorem dX4_carry_24 : decode cX4_carry 24 = .ok (.ireturn, 1) := by decide +kernel
theorem dX4_face_0 : decode cX4_face 0 = .ok (.aload_n 0, 1) := by decide +kernel
theorem dX4_face_1 : decode cX4_face 1 = .ok (.getfield 16, 3) := by decide +kernel
theorem dX4_face_4 : decode cX4_face 4 = .ok (.aload_n 0, 1) := by decide +kernel
theorem dX4_face_5 : decode cX4_face 5 = .ok (.getfield 10, 3) := by decide +kernel
theorem dX4_face_8 : decode cX4_face 8 = .ok (.invokevirtual 58, 3) := by decide +kernel
theorem dX4_face_11 : decode cX4_face 11 = .ok (.aload_n 0, 1) := by decide +kernel
theorem dX4_face_12 : decode cX4_face 12 = .ok (.aload_n 0, 1) := by decide +kernel
theorem dX4_face_13 : decode cX4_face 13 = .ok (.getfield 10, 3) := by decide +kernel
theorem dX4_face_16 : decode cX4_face 16 = .ok (.iload_n 1, 1) := by decide +kernel
theorem dX4_face_17 : decode cX4_face 17 = .ok (.iload_n 2, 1) := by decide +kernel
theorem dX4_face_18 : decode cX4_face 18 = .ok (.invokevirtual 74, 3) := by decide +kernel
theorem dX4_face_21 : decode cX4_face 21 = .ok (.invokevirtual 66, 3) := by decide +kernel
theorem dX4_face_24 : decode cX4_face 24 = .ok (.ireturn, 1) := by decide +kernel
theorem dX4_crow_0 : decode cX4_crow 0 = .ok (.aload_n 0, 1) := by decide +kernel
theorem dX4_crow_1 : decode cX4_crow 1 = .ok (.getfield 16, 3) := by decide +kernel
theorem dX4_crow_4 : decode cX4_crow 4 = .ok (.aload_n 0, 1) := by decide +kernel
theorem dX4_crow_5 : decode cX4_crow 5 = .ok (.getfield 10, 3) := by decide +kernel
theorem dX4_crow_8 : decode cX4_crow 8 = .ok (.invokevirtual 58, 3) := by decide +kernel
theorem dX4_crow_11 : decode cX4_crow 11 = .ok (.aload_n 0, 1) := by decide +kernel
theorem dX4_crow_12 : decode cX4_crow 12 = .ok (.aload_n 0, 1) := by decide +kernel
theorem dX4_crow_13 : decode cX4_crow 13 = .ok (.getfield 10, 3) := by decide +kernel
theorem dX4_crow_16 : decode cX4_crow 16 = .ok (.iload_n 1, 1) := by decide +kernel
theorem dX4_crow_17 : decode cX4_crow 17 = .ok (.iload_n 2, 1) := by decide +kernel
theorem dX4_crow_18 : decode cX4_crow 18 = .ok (.invokevirtual 77, 3) := by decide +kernel
theorem dX4_crow_21 : decode cX4_crow 21 = .ok (.invokevirtual 66, 3) := by decide +kernel
theorem dX4_crow_24 : decode cX4_crow 24 = .ok (.ireturn, 1) := by decide +kernel
theorem dX4_scare_0 : decode cX4_scare 0 = .ok (.aload_n 0, 1) := by decide +kernel
theorem dX4_scare_1 : decode cX4_scare 1 = .ok (.getfield 16, 3) := by decide +kernel
theorem dX4_scare_4 : decode cX4_scare 4 = .ok (.aload_n 0, 1) := by decide +kernel
theorem dX4_scare_5 : decode cX4_scare 5 = .ok (.getfield 10, 3) := by decide +kernel
theorem dX4_scare_8 : decode cX4_scare 8 = .ok (.invokevirtual 58, 3) := by decide +kernel
theorem dX4_scare_11 : decode cX4_scare 11 = .ok (.aload_n 0, 1) := by decide +kernel
theorem dX4_scare_12 : decode cX4_scare 12 = .ok (.aload_n 0, 1) := by decide +kernel
theorem dX4_scare_13 : decode cX4_scare 13 = .ok (.getfield 10, 3) := by decide +kernel
theorem dX4_scare_16 : decode cX4_scare 16 = .ok (.iload_n 1, 1) := by decide +kernel
theorem dX4_scare_17 : decode cX4_scare 17 = .ok (.invokevirtual 80, 3) := by decide +kernel
theorem dX4_scare_20 : decode cX4_scare 20 = .ok (.invokevirtual 66, 3) := by decide +kernel
theorem dX4_scare_23 : decode cX4_scare 23 = .ok (.ireturn, 1) := by decide +kernel
theorem dX4_fill_0 : decode cX4_fill 0 = .ok (.aload_n 0, 1) := by decide +kernel
theorem dX4_fill_1 : decode cX4_fill 1 = .ok (.getfield 16, 3) := by decide +kernel
theorem dX4_fill_4 : decode cX4_fill 4 = .ok (.aload_n 0, 1) := by decide +kernel
theorem dX4_fill_5 : decode cX4_fill 5 = .ok (.getfield 10, 3) := by decide +kernel
theorem dX4_fill_8 : decode cX4_fill 8 = .ok (.invokevirtual 58, 3) := by decide +kernel
theorem dX4_fill_11 : decode cX4_fill 11 = .ok (.aload_n 0, 1) := by decide +kernel
theorem dX4_fill_12 : decode cX4_fill 12 = .ok (.aload_n 0, 1) := by decide +kernel
theorem dX4_fill_13 : decode cX4_fill 13 = .ok (.getfield 10, 3) := by decide +kernel
theorem dX4_fill_16 : decode cX4_fill 16 = .ok (.iload_n 1, 1) := by decide +kernel
theorem dX4_fill_17 : decode cX4_fill 17 = .ok (.iload_n 2, 1) := by decide +kernel
theorem dX4_fill_18 : decode cX4_fill 18 = .ok (.invokevirtual 83, 3) := by decide +kernel
theorem dX4_fill_21 : decode cX4_fill 21 = .ok (.invokevirtual 66, 3) := by decide +kernel
theorem dX4_fill_24 : decode cX4_fill 24 = .ok (.ireturn, 1) := by decide +kernel
theorem dX4_seats_0 : decode cX4_seats 0 = .ok (.aload_n 0, 1) := by decide +kernel
theorem dX4_seats_1 : decode cX4_seats 1 = .ok (.getfield 16, 3) := by decide +kernel
theorem dX4_seats_4 : decode cX4_seats 4 = .ok (.aload_n 0, 1) := by decide +kernel
theorem dX4_seats_5 : decode cX4_seats 5 = .ok (.getfield 10, 3) := by decide +kernel
theorem dX4_seats_8 : decode cX4_seats 8 = .ok (.invokevirtual 58, 3) := by decide +kernel
theorem dX4_seats_11 : decode cX4_seats 11 = .ok (.aload_n 0, 1) := by decide +kernel
theorem dX4_seats_12 : decode cX4_seats 12 = .ok (.aload_n 0, 1) := by decide +kernel
theorem dX4_seats_13 : decode cX4_seats 13 = .ok (.getfield 10, 3) := by decide +kernel
theorem dX4_seats_16 : decode cX4_seats 16 = .ok (.iload_n 1, 1) := by decide +kernel
theorem dX4_seats_17 : decode cX4_seats 17 = .ok (.iload_n 2, 1) := by decide +kernel
theorem dX4_seats_18 : decode cX4_seats 18 = .ok (.invokevirtual 86, 3) := by decide +kernel
theorem dX4_seats_21 : decode cX4_seats 21 = .ok (.invokevirtual 66, 3) := by decide +kernel
theorem dX4_seats_24 : decode cX4_seats 24 = .ok (.ireturn, 1) := by decide +kernel
theorem dX4_wind_0 : decode cX4_wind 0 = .ok (.aload_n 0, 1) := by decide +kernel
theorem dX4_wind_1 : decode cX4_wind 1 = .ok (.getfield 16, 3) := by decide +kernel
theorem dX4_wind_4 : decode cX4_wind 4 = .ok (.aload_n 0, 1) := by decide +kernel
theorem dX4_wind_5 : decode cX4_wind 5 = .ok (.getfield 10, 3) := by decide +kernel
theorem dX4_wind_8 : decode cX4_wind 8 = .ok (.invokevirtual 58, 3) := by decide +kernel
theorem dX4_wind_11 : decode cX4_wind 11 = .ok (.aload_n 0, 1) := by decide +kernel
theorem dX4_wind_12 : decode cX4_wind 12 = .ok (.aload_n 0, 1) := by decide +kernel
theorem dX4_wind_13 : decode cX4_wind 13 = .ok (.getfield 10, 3) := by decide +kernel
theorem dX4_wind_16 : decode cX4_wind 16 = .ok (.iload_n 1, 1) := by decide +kernel
theorem dX4_wind_17 : decode cX4_wind 17 = .ok (.iload_n 2, 1) := by decide +kernel
theorem dX4_wind_18 : decode cX4_wind 18 = .ok (.invokevirtual 89, 3) := by decide +kernel
theorem dX4_wind_21 : decode cX4_wind 21 = .ok (.invokevirtual 66, 3) := by decide +kernel
theorem dX4_wind_24 : decode cX4_wind 24 = .ok (.ireturn, 1) := by decide +kernel
theorem dX4_set_0 : decode cX4_set 0 = .ok (.aload_n 0, 1) := by decide +kernel
theorem dX4_set_1 : decode cX4_set 1 = .ok (.getfield 16, 3) := by decide +kernel
theorem dX4_set_4 : decode cX4_set 4 = .ok (.aload_n 0, 1) := by decide +kernel
theorem dX4_set_5 : decode cX4_set 5 = .ok (.getfield 10, 3) := by decide +kernel
theorem dX4_set_8 : decode cX4_set 8 = .ok (.invokevirtual 58, 3) := by decide +kernel
theorem dX4_set_11 : decode cX4_set 11 = .ok (.aload_n 0, 1) := by decide +kernel
theorem dX4_set_12 : decode cX4_set 12 = .ok (.aload_n 0, 1) := by decide +kernel
theorem dX4_set_13 : decode cX4_set 13 = .ok (.getfield 10, 3) := by decide +kernel
theorem dX4_set_16 : decode cX4_set 16 = .ok (.iload_n 1, 1) := by decide +kernel
theorem dX4_set_17 : decode cX4_set 17 = .ok (.iload_n 2, 1) := by decide +kernel
theorem dX4_set_18 : decode cX4_set 18 = .ok (.invokevirtual 92, 3) := by decide +kernel
theorem dX4_set_21 : decode cX4_set 21 = .ok (.invokevirtual 66, 3) := by decide +kernel
theorem dX4_set_24 : decode cX4_set 24 = .ok (.ireturn, 1) := by decide +kernel
theorem dX4_vote_0 : decode cX4_vote 0 = .ok (.aload_n 0, 1) := by decide +kernel
theorem dX4_vote_1 : decode cX4_vote 1 = .ok (.getfield 16, 3) := by decide +kernel
theorem dX4_vote_4 : decode cX4_vote 4 = .ok (.aload_n 0, 1) := by decide +kernel
theorem dX4_vote_5 : decode cX4_vote 5 = .ok (.getfield 10, 3) := by decide +kernel
theorem dX4_vote_8 : decode cX4_vote 8 = .ok (.invokevirtual 58, 3) := by decide +kernel
theorem dX4_vote_11 : decode cX4_vote 11 = .ok (.aload_n 0, 1) := by decide +kernel
theorem dX4_vote_12 : decode cX4_vote 12 = .ok (.aload_n 0, 1) := by decide +kernel
theorem dX4_vote_13 : decode cX4_vote 13 = .ok (.getfield 10, 3) := by decide +kernel
theorem dX4_vote_16 : decode cX4_vote 16 = .ok (.aload_n 0, 1) := by decide +kernel
theorem dX4_vote_17 : decode cX4_vote 17 = .ok (.getfield 44, 3) := by decide +kernel
theorem dX4_vote_20 : decode cX4_vote 20 = .ok (.aload_n 0, 1) := by decide +kernel
theorem dX4_vote_21 : decode cX4_vote 21 = .ok (.getfield 10, 3) := by decide +kernel
theorem dX4_vote_24 : decode cX4_vote 24 = .ok (.invokevirtual 95, 3) := by decide +kernel
theorem dX4_vote_27 : decode cX4_vote 27 = .ok (.invokevirtual 99, 3) := by decide +kernel
theorem dX4_vote_30 : decode cX4_vote 30 = .ok (.invokevirtual 66, 3) := by decide +kernel
theorem dX4_vote_33 : decode cX4_vote 33 = .ok (.ireturn, 1) := by decide +kernel
theorem dX4_pass_0 : decode cX4_pass 0 = .ok (.aload_n 0, 1) := by decide +kernel
theorem dX4_pass_1 : decode cX4_pass 1 = .ok (.getfield 16, 3) := by decide +kernel
theorem dX4_pass_4 : decode cX4_pass 4 = .ok (.aload_n 0, 1) := by decide +kernel
theorem dX4_pass_5 : decode cX4_pass 5 = .ok (.getfield 10, 3) := by decide +kernel
theorem dX4_pass_8 : decode cX4_pass 8 = .ok (.invokevirtual 58, 3) := by decide +kernel
theorem dX4_pass_11 : decode cX4_pass 11 = .ok (.aload_n 0, 1) := by decide +kernel
theorem dX4_pass_12 : decode cX4_pass 12 = .ok (.aload_n 0, 1) := by decide +kernel
theorem dX4_pass_13 : decode cX4_pass 13 = .ok (.getfield 10, 3) := by decide +kernel
theorem dX4_pass_16 : decode cX4_pass 16 = .ok (.iload_n 1, 1) := by decide +kernel
theorem dX4_pass_17 : decode cX4_pass 17 = .ok (.invokevirtual 102, 3) := by decide +kernel
theorem dX4_pass_20 : decode cX4_pass 20 = .ok (.invokevirtual 66, 3) := by decide +kernel
theorem dX4_pass_23 : decode cX4_pass 23 = .ok (.ireturn, 1) := by decide +kernel
theorem dX4_undo_0 : decode cX4_undo 0 = .ok (.aload_n 0, 1) := by decide +kernel
theorem dX4_undo_1 : decode cX4_undo 1 = .ok (.getfield 28, 3) := by decide +kernel
theorem dX4_undo_4 : decode cX4_undo 4 = .ok (.aload_n 0, 1) := by decide +kernel
theorem dX4_undo_5 : decode cX4_undo 5 = .ok (.getfield 10, 3) := by decide +kernel
theorem dX4_undo_8 : decode cX4_undo 8 = .ok (.invokevirtual 126, 3) := by decide +kernel
theorem dX4_undo_11 : decode cX4_undo 11 = .ok (.ireturn, 1) := by decide +kernel
theorem dX4_scarecrow_0 : decode cX4_scarecrow 0 = .ok (.aload_n 0, 1) := by decide +kernel
theorem dX4_scarecrow_1 : decode cX4_scarecrow 1 = .ok (.getfield 10, 3) := by decide +kernel
theorem dX4_scarecrow_4 : decode cX4_scarecrow 4 = .ok (.iload_n 1, 1) := by decide +kernel
theorem dX4_scarecrow_5 : decode cX4_scarecrow 5 = .ok (.iload_n 2, 1) := by decide +kernel
theorem dX4_scarecrow_6 : decode cX4_scarecrow 6 = .ok (.invokevirtual 136, 3) := by decide +kernel
theorem dX4_scarecrow_9 : decode cX4_scarecrow 9 = .ok (.ireturn, 1) := by decide +kernel
theorem dX4_straw_0 : decode cX4_straw 0 = .ok (.aload_n 0, 1) := by decide +kernel
theorem dX4_straw_1 : decode cX4_straw 1 = .ok (.getfield 10, 3) := by decide +kernel
theorem dX4_straw_4 : decode cX4_straw 4 = .ok (.iload_n 1, 1) := by decide +kernel
theorem dX4_straw_5 : decode cX4_straw 5 = .ok (.invokevirtual 139, 3) := by decide +kernel
theorem dX4_straw_8 : decode cX4_straw 8 = .ok (.ifCond .eq 15, 3) := by decide +kernel
theorem dX4_straw_11 : decode cX4_straw 11 = .ok (.aload_n 0, 1) := by decide +kernel
theorem dX4_straw_12 : decode cX4_straw 12 = .ok (.getfield 10, 3) := by decide +kernel
theorem dX4_straw_15 : decode cX4_straw 15 = .ok (.iload_n 1, 1) := by decide +kernel
theorem dX4_straw_16 : decode cX4_straw 16 = .ok (.invokevirtual 142, 3) := by decide +kernel
theorem dX4_straw_19 : decode cX4_straw 19 = .ok (.f2d, 1) := by decide +kernel
theorem dX4_straw_20 : decode cX4_straw 20 = .ok (.goto 6, 3) := by decide +kernel
theorem dX4_straw_23 : decode cX4_straw 23 = .ok (.ldc2_w 146, 3) := by decide +kernel
theorem dX4_straw_26 : decode cX4_straw 26 = .ok (.dreturn, 1) := by decide +kernel
theorem dX4_weight_0 : decode cX4_weight 0 = .ok (.iload_n 1, 1) := by decide +kernel
theorem dX4_weight_1 : decode cX4_weight 1 = .ok (.invokestatic 148, 3) := by decide +kernel
theorem dX4_weight_4 : decode cX4_weight 4 = .ok (.ifCond .eq 10, 3) := by decide +kernel
theorem dX4_weight_7 : decode cX4_weight 7 = .ok (.iload_n 2, 1) := by decide +kernel
theorem dX4_weight_8 : decode cX4_weight 8 = .ok (.invokestatic 151, 3) := by decide +kernel
theorem dX4_weight_11 : decode cX4_weight 11 = .ok (.ifCond .ne 7, 3) := by decide +kernel
theorem dX4_weight_14 : decode cX4_weight 14 = .ok (.ldc2_w 146, 3) := by decide +kernel
theorem dX4_weight_17 : decode cX4_weight 17 = .ok (.dreturn, 1) := by decide +kernel
theorem dX4_weight_18 : decode cX4_weight 18 = .ok (.aload_n 0, 1) := by decide +kernel
theorem dX4_weight_19 : decode cX4_weight 19 = .ok (.getfield 44, 3) := by decide +kernel
theorem dX4_weight_22 : decode cX4_weight 22 = .ok (.aload_n 0, 1) := by decide +kernel
theorem dX4_weight_23 : decode cX4_weight 23 = .ok (.getfield 10, 3) := by decide +kernel
theorem dX4_weight_26 : decode cX4_weight 26 = .ok (.iload_n 1, 1) := by decide +kernel
theorem dX4_weight_27 : decode cX4_weight 27 = .ok (.invokevirtual 154, 3) := by decide +kernel
theorem dX4_weight_30 : decode cX4_weight 30 = .ok (.aload_n 0, 1) := by decide +kernel
theorem dX4_weight_31 : decode cX4_weight 31 = .ok (.getfield 44, 3) := by decide +kernel
theorem dX4_weight_34 : decode cX4_weight 34 = .ok (.getfield 158, 3) := by decide +kernel
theorem dX4_weight_37 : decode cX4_weight 37 = .ok (.iload_n 2, 1) := by decide +kernel
theorem dX4_weight_38 : decode cX4_weight 38 = .ok (.faload, 1) := by decide +kernel
theorem dX4_weight_39 : decode cX4_weight 39 = .ok (.f2d, 1) := by decide +kernel
theorem dX4_weight_40 : decode cX4_weight 40 = .ok (.dreturn, 1) := by decide +kernel
theorem dX4_field_0 : decode cX4_field 0 = .ok (.iload_n 1, 1) := by decide +kernel
theorem dX4_field_1 : decode cX4_field 1 = .ok (.invokestatic 148, 3) := by decide +kernel
theorem dX4_field_4 : decode cX4_field 4 = .ok (.ifCond .ne 5, 3) := by decide +kernel
theorem dX4_field_7 : decode cX4_field 7 = .ok (.iconst (-1), 1) := by decide +kernel
theorem dX4_field_8 : decode cX4_field 8 = .ok (.ireturn, 1) := by decide +kernel
theorem dX4_field_9 : decode cX4_field 9 = .ok (.iload_n 2, 1) := by decide +kernel
theorem dX4_field_10 : decode cX4_field 10 = .ok (.tableswitch 75 0 3 #[30, 40, 49, 62], 30) := by decide +kernel
theorem dX4_field_40 : decode cX4_field 40 = .ok (.aload_n 0, 1) := by decide +kernel
theorem dX4_field_41 : decode cX4_field 41 = .ok (.getfield 10, 3) := by decide +kernel
theorem dX4_field_44 : decode cX4_field 44 = .ok (.getfield 162, 3) := by decide +kernel
theorem dX4_field_47 : decode cX4_field 47 = .ok (.iload_n 1, 1) := by decide +kernel
theorem dX4_field_48 : decode cX4_field 48 = .ok (.iaload, 1) := by decide +kernel
theorem dX4_field_49 : decode cX4_field 49 = .ok (.ireturn, 1) := by decide +kernel
theorem dX4_field_50 : decode cX4_field 50 = .ok (.aload_n 0, 1) := by decide +kernel
theorem dX4_field_51 : decode cX4_field 51 = .ok (.getfield 10, 3) := by decide +kernel
theorem dX4_field_54 : decode cX4_field 54 = .ok (.iload_n 1, 1) := by decide +kernel
theorem dX4_field_55 : decode cX4_field 55 = .ok (.invokevirtual 166, 3) := by decide +kernel
theorem dX4_field_58 : decode cX4_field 58 = .ok (.ireturn, 1) := by decide +kernel
theorem dX4_field_59 : decode cX4_field 59 = .ok (.aload_n 0, 1) := by decide +kernel
theorem dX4_field_60 : decode cX4_field 60 = .ok (.getfield 44, 3) := by decide +kernel
theorem dX4_field_63 : decode cX4_field 63 = .ok (.aload_n 0, 1) := by decide +kernel
theorem dX4_field_64 : decode cX4_field 64 = .ok (.getfield 10, 3) := by decide +kernel
theorem dX4_field_67 : decode cX4_field 67 = .ok (.iload_n 1, 1) := by decide +kernel
theorem dX4_field_68 : decode cX4_field 68 = .ok (.invokevirtual 169, 3) := by decide +kernel
theorem dX4_field_71 : decode cX4_field 71 = .ok (.ireturn, 1) := by decide +kernel
theorem dX4_field_72 : decode cX4_field 72 = .ok (.aload_n 0, 1) := by decide +kernel
theorem dX4_field_73 : decode cX4_field 73 = .ok (.getfield 44, 3) := by decide +kernel
theorem dX4_field_76 : decode cX4_field 76 = .ok (.aload_n 0, 1) := by decide +kernel
theorem dX4_field_77 : decode cX4_field 77 = .ok (.getfield 10, 3) := by decide +kernel
theorem dX4_field_80 : decode cX4_field 80 = .ok (.iload_n 1, 1) := by decide +kernel
theorem dX4_field_81 : decode cX4_field 81 = .ok (.invokevirtual 173, 3) := by decide +kernel
theorem dX4_field_84 : decode cX4_field 84 = .ok (.ireturn, 1) := by decide +kernel
theorem dX4_field_85 : decode cX4_field 85 = .ok (.bipush (-2), 2) := by decide +kernel
theorem dX4_field_87 : decode cX4_field 87 = .ok (.ireturn, 1) := by decide +kernel
theorem dX4_reason_0 : decode cX4_reason 0 = .ok (.iload_n 1, 1) := by decide +kernel
theorem dX4_reason_1 : decode cX4_reason 1 = .ok (.invokestatic 148, 3) := by decide +kernel
theorem dX4_reason_4 : decode cX4_reason 4 = .ok (.ifCond .eq 18, 3) := by decide +kernel
theorem dX4_reason_7 : decode cX4_reason 7 = .ok (.aload_n 0, 1) := by decide +kernel
theorem dX4_reason_8 : decode cX4_reason 8 = .ok (.getfield 44, 3) := by decide +kernel
theorem dX4_reason_11 : decode cX4_reason 11 = .ok (.aload_n 0, 1) := by decide +kernel
theorem dX4_reason_12 : decode cX4_reason 12 = .ok (.getfield 10, 3) := by decide +kernel
theorem dX4_reason_15 : decode cX4_reason 15 = .ok (.iload_n 1, 1) := by decide +kernel
theorem dX4_reason_16 : decode cX4_reason 16 = .ok (.invokevirtual 176, 3) := by decide +kernel
theorem dX4_reason_19 : decode cX4_reason 19 = .ok (.goto 4, 3) := by decide +kernel
theorem dX4_reason_22 : decode cX4_reason 22 = .ok (.iconst (-1), 1) := by decide +kernel
theorem dX4_reason_23 : decode cX4_reason 23 = .ok (.ireturn, 1) := by decide +kernel
theorem dX4_decision_0 : decode cX4_decision 0 = .ok (.iload_n 1, 1) := by decide +kernel
theorem dX4_decision_1 : decode cX4_decision 1 = .ok (.ifCond .ne 15, 3) := by decide +kernel
theorem dX4_decision_4 : decode cX4_decision 4 = .ok (.aload_n 0, 1) := by decide +kernel
theorem dX4_decision_5 : decode cX4_decision 5 = .ok (.getfield 44, 3) := by decide +kernel
theorem dX4_decision_8 : decode cX4_decision 8 = .ok (.aload_n 0, 1) := by decide +kernel
theorem dX4_decision_9 : decode cX4_decision 9 = .ok (.getfield 10, 3) := by decide +kernel
theorem dX4_decision_12 : decode cX4_decision 12 = .ok (.invokevirtual 95, 3) := by decide +kernel
theorem dX4_decision_15 : decode cX4_decision 15 = .ok (.ireturn, 1) := by decide +kernel
theorem dX4_decision_16 : decode cX4_decision 16 = .ok (.iload_n 1, 1) := by decide +kernel
theorem dX4_decision_17 : decode cX4_decision 17 = .ok (.iconst 1, 1) := by decide +kernel
theorem dX4_decision_18 : decode cX4_decision 18 = .ok (.if_icmp .ne 17, 3) := by decide +kernel
theorem dX4_decision_21 : decode cX4_decision 21 = .ok (.aload_n 0, 1) := by decide +kernel
theorem dX4_decision_22 : decode cX4_decision 22 = .ok (.getfield 44, 3) := by decide +kernel
theorem dX4_decision_25 : decode cX4_decision 25 = .ok (.aload_n 0, 1) := by decide +kernel
theorem dX4_decision_26 : decode cX4_decision 26 = .ok (.getfield 10, 3) := by decide +kernel
theorem dX4_decision_29 : decode cX4_decision 29 = .ok (.invokevirtual 179, 3) := by decide +kernel
theorem dX4_decision_32 : decode cX4_decision 32 = .ok (.goto 5, 3) := by decide +kernel
theorem dX4_decision_35 : decode cX4_decision 35 = .ok (.bipush (-2), 2) := by decide +kernel
theorem dX4_decision_37 : decode cX4_decision 37 = .ok (.ireturn, 1) := by decide +kernel
theorem dX4_swings_0 : decode cX4_swings 0 = .ok (.aload_n 0, 1) := by decide +kernel
theorem dX4_swings_1 : decode cX4_swings 1 = .ok (.getfield 19, 3) := by decide +kernel
theorem dX4_swings_4 : decode cX4_swings 4 = .ok (.aload_n 0, 1) := by decide +kernel
theorem dX4_swings_5 : decode cX4_swings 5 = .ok (.getfield 10, 3) := by decide +kernel
theorem dX4_swings_8 : decode cX4_swings 8 = .ok (.invokevirtual 58, 3) := by decide +kernel
theorem dX4_swings_11 : decode cX4_swings 11 = .ok (.aload_n 0, 1) := by decide +kernel
theorem dX4_swings_12 : decode cX4_swings 12 = .ok (.getfield 44, 3) := by decide +kernel
theorem dX4_swings_15 : decode cX4_swings 15 = .ok (.aload_n 0, 1) := by decide +kernel
theorem dX4_swings_16 : decode cX4_swings 16 = .ok (.getfield 19, 3) := by decide +kernel
theorem dX4_swings_19 : decode cX4_swings 19 = .ok (.invokevirtual 95, 3) := by decide +kernel
theorem dX4_swings_22 : decode cX4_swings 22 = .ok (.istore_n 1, 1) := by decide +kernel
theorem dX4_swings_23 : decode cX4_swings 23 = .ok (.iconst 0, 1) := by decide +kernel
theorem dX4_swings_24 : decode cX4_swings 24 = .ok (.istore_n 2, 1) := by decide +kernel
theorem dX4_swings_25 : decode cX4_swings 25 = .ok (.iconst 0, 1) := by decide +kernel
theorem dX4_swings_26 : decode cX4_swings 26 = .ok (.istore_n 3, 1) := by decide +kernel
theorem dX4_swings_27 : decode cX4_swings 27 = .ok (.iload_n 3, 1) := by decide +kernel
theorem dX4_swings_28 : decode cX4_swings 28 = .ok (.aload_n 0, 1) := by decide +kernel
theorem dX4_swings_29 : decode cX4_swings 29 = .ok (.getfield 19, 3) := by decide +kernel
theorem dX4_swings_32 : decode cX4_swings 32 = .ok (.getfield 182, 3) := by decide +kernel
theorem dX4_swings_35 : decode cX4_swings 35 = .ok (.if_icmp .ge 24, 3) := by decide +kernel
theorem dX4_swings_38 : decode cX4_swings 38 = .ok (.aload_n 0, 1) := by decide +kernel
theorem dX4_swings_39 : decode cX4_swings 39 = .ok (.iload_n 3, 1) := by decide +kernel
theorem dX4_swings_40 : decode cX4_swings 40 = .ok (.iload_n 1, 1) := by decide +kernel
theorem dX4_swings_41 : decode cX4_swings 41 = .ok (.invokevirtual 185, 3) := by decide +kernel
theorem dX4_swings_44 : decode cX4_swings 44 = .ok (.ifCond .eq 9, 3) := by decide +kernel
theorem dX4_swings_47 : decode cX4_swings 47 = .ok (.iload_n 2, 1) := by decide +kernel
theorem dX4_swings_48 : decode cX4_swings 48 = .ok (.iconst 1, 1) := by decide +kernel
theorem dX4_swings_49 : decode cX4_swings 49 = .ok (.iload_n 3, 1) := by decide +kernel
theorem dX4_swings_50 : decode cX4_swings 50 = .ok (.ishl, 1) := by decide +kernel
theorem dX4_swings_51 : decode cX4_swings 51 = .ok (.ior, 1) := by decide +kernel
theorem dX4_swings_52 : decode cX4_swings 52 = .ok (.istore_n 2, 1) := by decide +kernel
theorem dX4_swings_53 : decode cX4_swings 53 = .ok (.iinc 3 1, 3) := by decide +kernel
theorem dX4_swings_56 : decode cX4_swings 56 = .ok (.goto (-29), 3) := by decide +kernel
theorem dX4_swings_59 : decode cX4_swings 59 = .ok (.iload_n 2, 1) := by decide +kernel
theorem dX4_swings_60 : decode cX4_swings 60 = .ok (.ireturn, 1) := by decide +kernel
theorem dX4_withoutCrows_0 : decode cX4_withoutCrows 0 = .ok (.aload_n 0, 1) := by decide +kernel
theorem dX4_withoutCrows_1 : decode cX4_withoutCrows 1 = .ok (.getfield 48, 3) := by decide +kernel
theorem dX4_withoutCrows_4 : decode cX4_withoutCrows 4 = .ok (.aload_n 0, 1) := by decide +kernel
theorem dX4_withoutCrows_5 : decode cX4_withoutCrows 5 = .ok (.getfield 10, 3) := by decide +kernel
theorem dX4_withoutCrows_8 : decode cX4_withoutCrows 8 = .ok (.invokevirtual 95, 3) := by decide +kernel
theorem dX4_withoutCrows_11 : decode cX4_withoutCrows 11 = .ok (.ireturn, 1) := by decide +kernel
theorem dX4_count_0 : decode cX4_count 0 = .ok (.iload_n 1, 1) := by decide +kernel
theorem dX4_count_1 : decode cX4_count 1 = .ok (.lookupswitch 43 #[(14, 27), (15, 35)], 27) := by decide +kernel
theorem dX4_count_28 : decode cX4_count 28 = .ok (.aload_n 0, 1) := by decide +kernel
theorem dX4_count_29 : decode cX4_count 29 = .ok (.getfield 28, 3) := by decide +kernel
theorem dX4_count_32 : decode cX4_count 32 = .ok (.getfield 209, 3) := by decide +kernel
theorem dX4_count_35 : decode cX4_count 35 = .ok (.ireturn, 1) := by decide +kernel
theorem dX4_count_36 : decode cX4_count 36 = .ok (.aload_n 0, 1) := by decide +kernel
theorem dX4_count_37 : decode cX4_count 37 = .ok (.getfield 35, 3) := by decide +kernel
theorem dX4_count_40 : decode cX4_count 40 = .ok (.getfield 212, 3) := by decide +kernel
theorem dX4_count_43 : decode cX4_count 43 = .ok (.ireturn, 1) := by decide +kernel
theorem dX4_count_44 : decode cX4_count 44 = .ok (.aload_n 0, 1) := by decide +kernel
theorem dX4_count_45 : decode cX4_count 45 = .ok (.getfield 10, 3) := by decide +kernel
theorem dX4_count_48 : decode cX4_count 48 = .ok (.iload_n 1, 1) := by decide +kernel
theorem dX4_count_49 : decode cX4_count 49 = .ok (.invokevirtual 215, 3) := by decide +kernel
theorem dX4_count_52 : decode cX4_count 52 = .ok (.ireturn, 1) := by decide +kernel
theorem dX4_recorded_0 : decode cX4_recorded 0 = .ok (.iload_n 1, 1) := by decide +kernel
theorem dX4_recorded_1 : decode cX4_recorded 1 = .ok (.ifCond .lt 14, 3) := by decide +kernel
theorem dX4_recorded_4 : decode cX4_recorded 4 = .ok (.aload_n 0, 1) := by decide +kernel
theorem dX4_recorded_5 : decode cX4_recorded 5 = .ok (.getfield 28, 3) := by decide +kernel
theorem dX4_recorded_8 : decode cX4_recorded 8 = .ok (.aload_n 0, 1) := by decide +kernel
theorem dX4_recorded_9 : decode cX4_recorded 9 = .ok (.getfield 16, 3) := by decide +kernel
theorem dX4_recorded_12 : decode cX4_recorded 12 = .ok (.invokevirtual 218, 3) := by decide +kernel
theorem dX4_recorded_15 : decode cX4_recorded 15 = .ok (.iload_n 1, 1) := by decide +kernel
theorem dX4_recorded_16 : decode cX4_recorded 16 = .ok (.ireturn, 1) := by decide +kernel
theorem dX4_couldSwing_0 : decode cX4_couldSwing 0 = .ok (.aload_n 0, 1) := by decide +kernel
theorem dX4_couldSwing_1 : decode cX4_couldSwing 1 = .ok (.getfield 19, 3) := by decide +kernel
theorem dX4_couldSwing_4 : decode cX4_couldSwing 4 = .ok (.getfield 230, 3) := by decide +kernel
theorem dX4_couldSwing_7 : decode cX4_couldSwing 7 = .ok (.iload_n 1, 1) := by decide +kernel
theorem dX4_couldSwing_8 : decode cX4_couldSwing 8 = .ok (.iaload, 1) := by decide +kernel
theorem dX4_couldSwing_9 : decode cX4_couldSwing 9 = .ok (.istore_n 3, 1) := by decide +kernel
theorem dX4_couldSwing_10 : decode cX4_couldSwing 10 = .ok (.aload_n 0, 1) := by decide +kernel
theorem dX4_couldSwing_11 : decode cX4_couldSwing 11 = .ok (.getfield 19, 3) := by decide +kernel
theorem dX4_couldSwing_14 : decode cX4_couldSwing 14 = .ok (.getfield 233, 3) := by decide +kernel
theorem dX4_couldSwing_17 : decode cX4_couldSwing 17 = .ok (.iload_n 1, 1) := by decide +kernel
theorem dX4_couldSwing_18 : decode cX4_couldSwing 18 = .ok (.iaload, 1) := by decide +kernel
theorem dX4_couldSwing_19 : decode cX4_couldSwing 19 = .ok (.istore 4, 2) := by decide +kernel
theorem dX4_couldSwing_21 : decode cX4_couldSwing 21 = .ok (.aload_n 0, 1) := by decide +kernel
theorem dX4_couldSwing_22 : decode cX4_couldSwing 22 = .ok (.getfield 44, 3) := by decide +kernel
theorem dX4_couldSwing_25 : decode cX4_couldSwing 25 = .ok (.getfield 236, 3) := by decide +kernel
theorem dX4_couldSwing_28 : decode cX4_couldSwing 28 = .ok (.iload_n 3, 1) := by decide +kernel
theorem dX4_couldSwing_29 : decode cX4_couldSwing 29 = .ok (.iaload, 1) := by decide +kernel
theorem dX4_couldSwing_30 : decode cX4_couldSwing 30 = .ok (.istore 5, 2) := by decide +kernel
theorem dX4_couldSwing_32 : decode cX4_couldSwing 32 = .ok (.iconst 0, 1) := by decide +kernel
theorem dX4_couldSwing_33 : decode cX4_couldSwing 33 = .ok (.istore 6, 2) := by decide +kernel
theorem dX4_couldSwing_35 : decode cX4_couldSwing 35 = .ok (.iconst 0, 1) := by decide +kernel
theorem dX4_couldSwing_36 : decode cX4_couldSwing 36 = .ok (.istore 7, 2) := by decide +kernel
theorem dX4_couldSwing_38 : decode cX4_couldSwing 38 = .ok (.iload 7, 2) := by decide +kernel
theorem dX4_couldSwing_40 : decode cX4_couldSwing 40 = .ok (.iconst 4, 1) := by decide +kernel
theorem dX4_couldSwing_41 : decode cX4_couldSwing 41 = .ok (.if_icmp .ge 68, 3) := by decide +kernel
theorem dX4_couldSwing_44 : decode cX4_couldSwing 44 = .ok (.iload 6, 2) := by decide +kernel
theorem dX4_couldSwing_46 : decode cX4_couldSwing 46 = .ok (.ifCond .ne 63, 3) := by decide +kernel
theorem dX4_couldSwing_49 : decode cX4_couldSwing 49 = .ok (.aload_n 0, 1) := by decide +kernel
theorem dX4_couldSwing_50 : decode cX4_couldSwing 50 = .ok (.getfield 19, 3) := by decide +kernel
theorem dX4_couldSwing_53 : decode cX4_couldSwing 53 = .ok (.getfield 233, 3) := by decide +kernel
theorem dX4_couldSwing_56 : decode cX4_couldSwing 56 = .ok (.iload_n 1, 1) := by decide +kernel
theorem dX4_couldSwing_57 : decode cX4_couldSwing 57 = .ok (.iload 7, 2) := by decide +kernel
theorem dX4_couldSwing_59 : decode cX4_couldSwing 59 = .ok (.iastore, 1) := by decide +kernel
theorem dX4_couldSwing_60 : decode cX4_couldSwing 60 = .ok (.aload_n 0, 1) := by decide +kernel
theorem dX4_couldSwing_61 : decode cX4_couldSwing 61 = .ok (.getfield 44, 3) := by decide +kernel
theorem dX4_couldSwing_64 : decode cX4_couldSwing 64 = .ok (.getfield 236, 3) := by decide +kernel
theorem dX4_couldSwing_67 : decode cX4_couldSwing 67 = .ok (.iload_n 3, 1) := by decide +kernel
theorem dX4_couldSwing_68 : decode cX4_couldSwing 68 = .ok (.aload_n 0, 1) := by decide +kernel
theorem dX4_couldSwing_69 : decode cX4_couldSwing 69 = .ok (.getfield 44, 3) := by decide +kernel
theorem dX4_couldSwing_72 : decode cX4_couldSwing 72 = .ok (.aload_n 0, 1) := by decide +kernel
theorem dX4_couldSwing_73 : decode cX4_couldSwing 73 = .ok (.getfield 19, 3) := by decide +kernel
theorem dX4_couldSwing_76 : decode cX4_couldSwing 76 = .ok (.iload_n 3, 1) := by decide +kernel
theorem dX4_couldSwing_77 : decode cX4_couldSwing 77 = .ok (.invokevirtual 169, 3) := by decide +kernel
theorem dX4_couldSwing_80 : decode cX4_couldSwing 80 = .ok (.iastore, 1) := by decide +kernel
theorem dX4_couldSwing_81 : decode cX4_couldSwing 81 = .ok (.aload_n 0, 1) := by decide +kernel
theorem dX4_couldSwing_82 : decode cX4_couldSwing 82 = .ok (.getfield 44, 3) := by decide +kernel
theorem dX4_couldSwing_85 : decode cX4_couldSwing 85 = .ok (.aload_n 0, 1) := by decide +kernel
theorem dX4_couldSwing_86 : decode cX4_couldSwing 86 = .ok (.getfield 19, 3) := by decide +kernel
theorem dX4_couldSwing_89 : decode cX4_couldSwing 89 = .ok (.invokevirtual 239, 3) := by decide +kernel
theorem dX4_couldSwing_92 : decode cX4_couldSwing 92 = .ok (.iload_n 2, 1) := by decide +kernel
theorem dX4_couldSwing_93 : decode cX4_couldSwing 93 = .ok (.if_icmp .eq 7, 3) := by decide +kernel
theorem dX4_couldSwing_96 : decode cX4_couldSwing 96 = .ok (.iconst 1, 1) := by decide +kernel
theorem dX4_couldSwing_97 : decode cX4_couldSwing 97 = .ok (.goto 4, 3) := by decide +kernel
theorem dX4_couldSwing_100 : decode cX4_couldSwing 100 = .ok (.iconst 0, 1) := by decide +kernel
theorem dX4_couldSwing_101 : decode cX4_couldSwing 101 = .ok (.istore 6, 2) := by decide +kernel
theorem dX4_couldSwing_103 : decode cX4_couldSwing 103 = .ok (.iinc 7 1, 3) := by decide +kernel
theorem dX4_couldSwing_106 : decode cX4_couldSwing 106 = .ok (.goto (-68), 3) := by decide +kernel
theorem dX4_couldSwing_109 : decode cX4_couldSwing 109 = .ok (.aload_n 0, 1) := by decide +kernel
theorem dX4_couldSwing_110 : decode cX4_couldSwing 110 = .ok (.getfield 19, 3) := by decide +kernel
theorem dX4_couldSwing_113 : decode cX4_couldSwing 113 = .ok (.getfield 233, 3) := by decide +kernel
theorem dX4_couldSwing_116 : decode cX4_couldSwing 116 = .ok (.iload_n 1, 1) := by decide +kernel
theorem dX4_couldSwing_117 : decode cX4_couldSwing 117 = .ok (.iload 4, 2) := by decide +kernel
theorem dX4_couldSwing_119 : decode cX4_couldSwing 119 = .ok (.iastore, 1) := by decide +kernel
theorem dX4_couldSwing_120 : decode cX4_couldSwing 120 = .ok (.aload_n 0, 1) := by decide +kernel
theorem dX4_couldSwing_121 : decode cX4_couldSwing 121 = .ok (.getfield 44, 3) := by decide +kernel
theorem dX4_couldSwing_124 : decode cX4_couldSwing 124 = .ok (.getfield 236, 3) := by decide +kernel
theorem dX4_couldSwing_127 : decode cX4_couldSwing 127 = .ok (.iload_n 3, 1) := by decide +kernel
theorem dX4_couldSwing_128 : decode cX4_couldSwing 128 = .ok (.iload 5, 2) := by decide +kernel
theorem dX4_couldSwing_130 : decode cX4_couldSwing 130 = .ok (.iastore, 1) := by decide +kernel
theorem dX4_couldSwing_131 : decode cX4_couldSwing 131 = .ok (.iload 6, 2) := by decide +kernel
theorem dX4_couldSwing_133 : decode cX4_couldSwing 133 = .ok (.ireturn, 1) := by decide +kernel
theorem dX4_isIn_0 : decode cX4_isIn 0 = .ok (.iload_n 0, 1) := by decide +kernel
theorem dX4_isIn_1 : decode cX4_isIn 1 = .ok (.iload_n 1, 1) := by decide +kernel
theorem dX4_isIn_2 : decode cX4_isIn 2 = .ok (.if_icmp .lt 12, 3) := by decide +kernel
theorem dX4_isIn_5 : decode cX4_isIn 5 = .ok (.iload_n 0, 1) := by decide +kernel
theorem dX4_isIn_6 : decode cX4_isIn 6 = .ok (.iload_n 2, 1) := by decide +kernel
theorem dX4_isIn_7 : decode cX4_isIn 7 = .ok (.if_icmp .gt 7, 3) := by decide +kernel
theorem dX4_isIn_10 : decode cX4_isIn 10 = .ok (.iconst 1, 1) := by decide +kernel
theorem dX4_isIn_11 : decode cX4_isIn 11 = .ok (.goto 4, 3) := by decide +kernel
theorem dX4_isIn_14 : decode cX4_isIn 14 = .ok (.iconst 0, 1) := by decide +kernel
theorem dX4_isIn_15 : decode cX4_isIn 15 = .ok (.ireturn, 1) := by decide +kernel
theorem dX4_isField_0 : decode cX4_isField 0 = .ok (.iload_n 0, 1) := by decide +kernel
theorem dX4_isField_1 : decode cX4_isField 1 = .ok (.iconst 0, 1) := by decide +kernel
theorem dX4_isField_2 : decode cX4_isField 2 = .ok (.iconst 5, 1) := by decide +kernel
theorem dX4_isField_3 : decode cX4_isField 3 = .ok (.invokestatic 195, 3) := by decide +kernel
theorem dX4_isField_6 : decode cX4_isField 6 = .ok (.ireturn, 1) := by decide +kernel
theorem dX4_isWay_0 : decode cX4_isWay 0 = .ok (.iload_n 0, 1) := by decide +kernel
theorem dX4_isWay_1 : decode cX4_isWay 1 = .ok (.iconst 0, 1) := by decide +kernel
theorem dX4_isWay_2 : decode cX4_isWay 2 = .ok (.iconst 3, 1) := by decide +kernel
theorem dX4_isWay_3 : decode cX4_isWay 3 = .ok (.invokestatic 195, 3) := by decide +kernel
theorem dX4_isWay_6 : decode cX4_isWay 6 = .ok (.ireturn, 1) := by decide +kernel
theorem dX4_sumOf_0 : decode cX4_sumOf 0 = .ok (.iconst 0, 1) := by decide +kernel
theorem dX4_sumOf_1 : decode cX4_sumOf 1 = .ok (.istore_n 1, 1) := by decide +kernel
theorem dX4_sumOf_2 : decode cX4_sumOf 2 = .ok (.iconst 0, 1) := by decide +kernel
theorem dX4_sumOf_3 : decode cX4_sumOf 3 = .ok (.istore_n 2, 1) := by decide +kernel
theorem dX4_sumOf_4 : decode cX4_sumOf 4 = .ok (.iload_n 2, 1) := by decide +kernel
theorem dX4_sumOf_5 : decode cX4_sumOf 5 = .ok (.aload_n 0, 1) := by decide +kernel
theorem dX4_sumOf_6 : decode cX4_sumOf 6 = .ok (.arraylength, 1) := by decide +kernel
theorem dX4_sumOf_7 : decode cX4_sumOf 7 = .ok (.if_icmp .ge 15, 3) := by decide +kernel
theorem dX4_sumOf_10 : decode cX4_sumOf 10 = .ok (.iload_n 1, 1) := by decide +kernel
theorem dX4_sumOf_11 : decode cX4_sumOf 11 = .ok (.aload_n 0, 1) := by decide +kernel
theorem dX4_sumOf_12 : decode cX4_sumOf 12 = .ok (.iload_n 2, 1) := by decide +kernel
theorem dX4_sumOf_13 : decode cX4_sumOf 13 = .ok (.iaload, 1) := by decide +kernel
theorem dX4_sumOf_14 : decode cX4_sumOf 14 = .ok (.iadd, 1) := by decide +kernel
theorem dX4_sumOf_15 : decode cX4_sumOf 15 = .ok (.istore_n 1, 1) := by decide +kernel
theorem dX4_sumOf_16 : decode cX4_sumOf 16 = .ok (.iinc 2 1, 3) := by decide +kernel
theorem dX4_sumOf_19 : decode cX4_sumOf 19 = .ok (.goto (-15), 3) := by decide +kernel
theorem dX4_sumOf_22 : decode cX4_sumOf 22 = .ok (.iload_n 1, 1) := by decide +kernel
theorem dX4_sumOf_23 : decode cX4_sumOf 23 = .ok (.ireturn, 1) := by decide +kernel
theorem dX4_copyRow_0 : decode cX4_copyRow 0 = .ok (.aload_n 0, 1) := by decide +kernel
theorem dX4_copyRow_1 : decode cX4_copyRow 1 = .ok (.iconst 0, 1) := by decide +kernel
theorem dX4_copyRow_2 : decode cX4_copyRow 2 = .ok (.aload_n 1, 1) := by decide +kernel
theorem dX4_copyRow_3 : decode cX4_copyRow 3 = .ok (.iconst 0, 1) := by decide +kernel
theorem dX4_copyRow_4 : decode cX4_copyRow 4 = .ok (.aload_n 0, 1) := by decide +kernel
theorem dX4_copyRow_5 : decode cX4_copyRow 5 = .ok (.arraylength, 1) := by decide +kernel
