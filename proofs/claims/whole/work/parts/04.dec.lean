theorem dX5_crowsOn_1 : decode cX5_crowsOn 1 = .ok (.istore_n 2, 1) := by decide +kernel
theorem dX5_crowsOn_2 : decode cX5_crowsOn 2 = .ok (.iconst 0, 1) := by decide +kernel
theorem dX5_crowsOn_3 : decode cX5_crowsOn 3 = .ok (.istore_n 3, 1) := by decide +kernel
theorem dX5_crowsOn_4 : decode cX5_crowsOn 4 = .ok (.iload_n 3, 1) := by decide +kernel
theorem dX5_crowsOn_5 : decode cX5_crowsOn 5 = .ok (.iconst 4, 1) := by decide +kernel
theorem dX5_crowsOn_6 : decode cX5_crowsOn 6 = .ok (.if_icmp .ge 20, 3) := by decide +kernel
theorem dX5_crowsOn_9 : decode cX5_crowsOn 9 = .ok (.iload_n 2, 1) := by decide +kernel
theorem dX5_crowsOn_10 : decode cX5_crowsOn 10 = .ok (.aload_n 0, 1) := by decide +kernel
theorem dX5_crowsOn_11 : decode cX5_crowsOn 11 = .ok (.iload_n 1, 1) := by decide +kernel
theorem dX5_crowsOn_12 : decode cX5_crowsOn 12 = .ok (.iconst 5, 1) := by decide +kernel
theorem dX5_crowsOn_13 : decode cX5_crowsOn 13 = .ok (.iload_n 3, 1) := by decide +kernel
theorem dX5_crowsOn_14 : decode cX5_crowsOn 14 = .ok (.iadd, 1) := by decide +kernel
theorem dX5_crowsOn_15 : decode cX5_crowsOn 15 = .ok (.invokevirtual 29, 3) := by decide +kernel
theorem dX5_crowsOn_18 : decode cX5_crowsOn 18 = .ok (.iadd, 1) := by decide +kernel
theorem dX5_crowsOn_19 : decode cX5_crowsOn 19 = .ok (.istore_n 2, 1) := by decide +kernel
theorem dX5_crowsOn_20 : decode cX5_crowsOn 20 = .ok (.iinc 3 1, 3) := by decide +kernel
theorem dX5_crowsOn_23 : decode cX5_crowsOn 23 = .ok (.goto (-19), 3) := by decide +kernel
theorem dX5_crowsOn_26 : decode cX5_crowsOn 26 = .ok (.iload_n 2, 1) := by decide +kernel
theorem dX5_crowsOn_27 : decode cX5_crowsOn 27 = .ok (.ireturn, 1) := by decide +kernel
theorem dX5_putAside_0 : decode cX5_putAside 0 = .ok (.iconst 0, 1) := by decide +kernel
theorem dX5_putAside_1 : decode cX5_putAside 1 = .ok (.istore_n 1, 1) := by decide +kernel
theorem dX5_putAside_2 : decode cX5_putAside 2 = .ok (.iload_n 1, 1) := by decide +kernel
theorem dX5_putAside_3 : decode cX5_putAside 3 = .ok (.sipush 149, 3) := by decide +kernel
theorem dX5_putAside_6 : decode cX5_putAside 6 = .ok (.if_icmp .ge 21, 3) := by decide +kernel
theorem dX5_putAside_9 : decode cX5_putAside 9 = .ok (.aload_n 0, 1) := by decide +kernel
theorem dX5_putAside_10 : decode cX5_putAside 10 = .ok (.getfield 13, 3) := by decide +kernel
theorem dX5_putAside_13 : decode cX5_putAside 13 = .ok (.iload_n 1, 1) := by decide +kernel
theorem dX5_putAside_14 : decode cX5_putAside 14 = .ok (.aload_n 0, 1) := by decide +kernel
theorem dX5_putAside_15 : decode cX5_putAside 15 = .ok (.getfield 7, 3) := by decide +kernel
theorem dX5_putAside_18 : decode cX5_putAside 18 = .ok (.iload_n 1, 1) := by decide +kernel
theorem dX5_putAside_19 : decode cX5_putAside 19 = .ok (.iaload, 1) := by decide +kernel
theorem dX5_putAside_20 : decode cX5_putAside 20 = .ok (.iastore, 1) := by decide +kernel
theorem dX5_putAside_21 : decode cX5_putAside 21 = .ok (.iinc 1 1, 3) := by decide +kernel
theorem dX5_putAside_24 : decode cX5_putAside 24 = .ok (.goto (-22), 3) := by decide +kernel
theorem dX5_putAside_27 : decode cX5_putAside 27 = .ok (.return_, 1) := by decide +kernel
theorem dX5_takeBack_0 : decode cX5_takeBack 0 = .ok (.iconst 0, 1) := by decide +kernel
theorem dX5_takeBack_1 : decode cX5_takeBack 1 = .ok (.istore_n 1, 1) := by decide +kernel
theorem dX5_takeBack_2 : decode cX5_takeBack 2 = .ok (.iload_n 1, 1) := by decide +kernel
theorem dX5_takeBack_3 : decode cX5_takeBack 3 = .ok (.sipush 149, 3) := by decide +kernel
theorem dX5_takeBack_6 : decode cX5_takeBack 6 = .ok (.if_icmp .ge 21, 3) := by decide +kernel
theorem dX5_takeBack_9 : decode cX5_takeBack 9 = .ok (.aload_n 0, 1) := by decide +kernel
theorem dX5_takeBack_10 : decode cX5_takeBack 10 = .ok (.getfield 7, 3) := by decide +kernel
theorem dX5_takeBack_13 : decode cX5_takeBack 13 = .ok (.iload_n 1, 1) := by decide +kernel
theorem dX5_takeBack_14 : decode cX5_takeBack 14 = .ok (.aload_n 0, 1) := by decide +kernel
theorem dX5_takeBack_15 : decode cX5_takeBack 15 = .ok (.getfield 13, 3) := by decide +kernel
theorem dX5_takeBack_18 : decode cX5_takeBack 18 = .ok (.iload_n 1, 1) := by decide +kernel
theorem dX5_takeBack_19 : decode cX5_takeBack 19 = .ok (.iaload, 1) := by decide +kernel
theorem dX5_takeBack_20 : decode cX5_takeBack 20 = .ok (.iastore, 1) := by decide +kernel
theorem dX5_takeBack_21 : decode cX5_takeBack 21 = .ok (.iinc 1 1, 3) := by decide +kernel
theorem dX5_takeBack_24 : decode cX5_takeBack 24 = .ok (.goto (-22), 3) := by decide +kernel
theorem dX5_takeBack_27 : decode cX5_takeBack 27 = .ok (.return_, 1) := by decide +kernel
theorem dX5_push_0 : decode cX5_push 0 = .ok (.aload_n 0, 1) := by decide +kernel
theorem dX5_push_1 : decode cX5_push 1 = .ok (.getfield 33, 3) := by decide +kernel
theorem dX5_push_4 : decode cX5_push 4 = .ok (.iconst 4, 1) := by decide +kernel
theorem dX5_push_5 : decode cX5_push 5 = .ok (.if_icmp .ne 44, 3) := by decide +kernel
theorem dX5_push_8 : decode cX5_push 8 = .ok (.iconst 0, 1) := by decide +kernel
theorem dX5_push_9 : decode cX5_push 9 = .ok (.istore_n 1, 1) := by decide +kernel
theorem dX5_push_10 : decode cX5_push 10 = .ok (.iload_n 1, 1) := by decide +kernel
theorem dX5_push_11 : decode cX5_push 11 = .ok (.sipush 447, 3) := by decide +kernel
theorem dX5_push_14 : decode cX5_push 14 = .ok (.if_icmp .ge 25, 3) := by decide +kernel
theorem dX5_push_17 : decode cX5_push 17 = .ok (.aload_n 0, 1) := by decide +kernel
theorem dX5_push_18 : decode cX5_push 18 = .ok (.getfield 16, 3) := by decide +kernel
theorem dX5_push_21 : decode cX5_push 21 = .ok (.iload_n 1, 1) := by decide +kernel
theorem dX5_push_22 : decode cX5_push 22 = .ok (.aload_n 0, 1) := by decide +kernel
theorem dX5_push_23 : decode cX5_push 23 = .ok (.getfield 16, 3) := by decide +kernel
theorem dX5_push_26 : decode cX5_push 26 = .ok (.iload_n 1, 1) := by decide +kernel
theorem dX5_push_27 : decode cX5_push 27 = .ok (.sipush 149, 3) := by decide +kernel
theorem dX5_push_30 : decode cX5_push 30 = .ok (.iadd, 1) := by decide +kernel
theorem dX5_push_31 : decode cX5_push 31 = .ok (.iaload, 1) := by decide +kernel
theorem dX5_push_32 : decode cX5_push 32 = .ok (.iastore, 1) := by decide +kernel
theorem dX5_push_33 : decode cX5_push 33 = .ok (.iinc 1 1, 3) := by decide +kernel
theorem dX5_push_36 : decode cX5_push 36 = .ok (.goto (-26), 3) := by decide +kernel
theorem dX5_push_39 : decode cX5_push 39 = .ok (.aload_n 0, 1) := by decide +kernel
theorem dX5_push_40 : decode cX5_push 40 = .ok (.dup, 1) := by decide +kernel
theorem dX5_push_41 : decode cX5_push 41 = .ok (.getfield 33, 3) := by decide +kernel
theorem dX5_push_44 : decode cX5_push 44 = .ok (.iconst 1, 1) := by decide +kernel
theorem dX5_push_45 : decode cX5_push 45 = .ok (.isub, 1) := by decide +kernel
theorem dX5_push_46 : decode cX5_push 46 = .ok (.putfield 33, 3) := by decide +kernel
theorem dX5_push_49 : decode cX5_push 49 = .ok (.iconst 0, 1) := by decide +kernel
theorem dX5_push_50 : decode cX5_push 50 = .ok (.istore_n 1, 1) := by decide +kernel
theorem dX5_push_51 : decode cX5_push 51 = .ok (.iload_n 1, 1) := by decide +kernel
theorem dX5_push_52 : decode cX5_push 52 = .ok (.sipush 149, 3) := by decide +kernel
theorem dX5_push_55 : decode cX5_push 55 = .ok (.if_icmp .ge 30, 3) := by decide +kernel
theorem dX5_push_58 : decode cX5_push 58 = .ok (.aload_n 0, 1) := by decide +kernel
theorem dX5_push_59 : decode cX5_push 59 = .ok (.getfield 16, 3) := by decide +kernel
theorem dX5_push_62 : decode cX5_push 62 = .ok (.aload_n 0, 1) := by decide +kernel
theorem dX5_push_63 : decode cX5_push 63 = .ok (.getfield 33, 3) := by decide +kernel
theorem dX5_push_66 : decode cX5_push 66 = .ok (.sipush 149, 3) := by decide +kernel
theorem dX5_push_69 : decode cX5_push 69 = .ok (.imul, 1) := by decide +kernel
theorem dX5_push_70 : decode cX5_push 70 = .ok (.iload_n 1, 1) := by decide +kernel
theorem dX5_push_71 : decode cX5_push 71 = .ok (.iadd, 1) := by decide +kernel
theorem dX5_push_72 : decode cX5_push 72 = .ok (.aload_n 0, 1) := by decide +kernel
theorem dX5_push_73 : decode cX5_push 73 = .ok (.getfield 13, 3) := by decide +kernel
theorem dX5_push_76 : decode cX5_push 76 = .ok (.iload_n 1, 1) := by decide +kernel
theorem dX5_push_77 : decode cX5_push 77 = .ok (.iaload, 1) := by decide +kernel
theorem dX5_push_78 : decode cX5_push 78 = .ok (.iastore, 1) := by decide +kernel
theorem dX5_push_79 : decode cX5_push 79 = .ok (.iinc 1 1, 3) := by decide +kernel
theorem dX5_push_82 : decode cX5_push 82 = .ok (.goto (-31), 3) := by decide +kernel
theorem dX5_push_85 : decode cX5_push 85 = .ok (.aload_n 0, 1) := by decide +kernel
theorem dX5_push_86 : decode cX5_push 86 = .ok (.dup, 1) := by decide +kernel
theorem dX5_push_87 : decode cX5_push 87 = .ok (.getfield 33, 3) := by decide +kernel
theorem dX5_push_90 : decode cX5_push 90 = .ok (.iconst 1, 1) := by decide +kernel
theorem dX5_push_91 : decode cX5_push 91 = .ok (.iadd, 1) := by decide +kernel
theorem dX5_push_92 : decode cX5_push 92 = .ok (.putfield 33, 3) := by decide +kernel
theorem dX5_push_95 : decode cX5_push 95 = .ok (.return_, 1) := by decide +kernel
theorem dX5_isNothing_0 : decode cX5_isNothing 0 = .ok (.iload_n 0, 1) := by decide +kernel
theorem dX5_isNothing_1 : decode cX5_isNothing 1 = .ok (.bipush (-5), 2) := by decide +kernel
theorem dX5_isNothing_3 : decode cX5_isNothing 3 = .ok (.iconst (-1), 1) := by decide +kernel
theorem dX5_isNothing_4 : decode cX5_isNothing 4 = .ok (.invokestatic 25, 3) := by decide +kernel
theorem dX5_isNothing_7 : decode cX5_isNothing 7 = .ok (.ireturn, 1) := by decide +kernel
theorem dX5_recorded_0 : decode cX5_recorded 0 = .ok (.iload_n 1, 1) := by decide +kernel
theorem dX5_recorded_1 : decode cX5_recorded 1 = .ok (.invokestatic 37, 3) := by decide +kernel
theorem dX5_recorded_4 : decode cX5_recorded 4 = .ok (.ifCond .ne 7, 3) := by decide +kernel
theorem dX5_recorded_7 : decode cX5_recorded 7 = .ok (.aload_n 0, 1) := by decide +kernel
theorem dX5_recorded_8 : decode cX5_recorded 8 = .ok (.invokevirtual 41, 3) := by decide +kernel
theorem dX5_recorded_11 : decode cX5_recorded 11 = .ok (.iload_n 1, 1) := by decide +kernel
theorem dX5_recorded_12 : decode cX5_recorded 12 = .ok (.ireturn, 1) := by decide +kernel
theorem dX5_undo_0 : decode cX5_undo 0 = .ok (.aload_n 0, 1) := by decide +kernel
theorem dX5_undo_1 : decode cX5_undo 1 = .ok (.getfield 33, 3) := by decide +kernel
theorem dX5_undo_4 : decode cX5_undo 4 = .ok (.ifCond .ne 6, 3) := by decide +kernel
theorem dX5_undo_7 : decode cX5_undo 7 = .ok (.bipush (-5), 2) := by decide +kernel
theorem dX5_undo_9 : decode cX5_undo 9 = .ok (.ireturn, 1) := by decide +kernel
theorem dX5_undo_10 : decode cX5_undo 10 = .ok (.aload_n 0, 1) := by decide +kernel
theorem dX5_undo_11 : decode cX5_undo 11 = .ok (.dup, 1) := by decide +kernel
theorem dX5_undo_12 : decode cX5_undo 12 = .ok (.getfield 33, 3) := by decide +kernel
theorem dX5_undo_15 : decode cX5_undo 15 = .ok (.iconst 1, 1) := by decide +kernel
theorem dX5_undo_16 : decode cX5_undo 16 = .ok (.isub, 1) := by decide +kernel
theorem dX5_undo_17 : decode cX5_undo 17 = .ok (.putfield 33, 3) := by decide +kernel
theorem dX5_undo_20 : decode cX5_undo 20 = .ok (.iconst 0, 1) := by decide +kernel
theorem dX5_undo_21 : decode cX5_undo 21 = .ok (.istore_n 1, 1) := by decide +kernel
theorem dX5_undo_22 : decode cX5_undo 22 = .ok (.iload_n 1, 1) := by decide +kernel
theorem dX5_undo_23 : decode cX5_undo 23 = .ok (.sipush 149, 3) := by decide +kernel
theorem dX5_undo_26 : decode cX5_undo 26 = .ok (.if_icmp .ge 30, 3) := by decide +kernel
theorem dX5_undo_29 : decode cX5_undo 29 = .ok (.aload_n 0, 1) := by decide +kernel
theorem dX5_undo_30 : decode cX5_undo 30 = .ok (.getfield 7, 3) := by decide +kernel
theorem dX5_undo_33 : decode cX5_undo 33 = .ok (.iload_n 1, 1) := by decide +kernel
theorem dX5_undo_34 : decode cX5_undo 34 = .ok (.aload_n 0, 1) := by decide +kernel
theorem dX5_undo_35 : decode cX5_undo 35 = .ok (.getfield 16, 3) := by decide +kernel
theorem dX5_undo_38 : decode cX5_undo 38 = .ok (.aload_n 0, 1) := by decide +kernel
theorem dX5_undo_39 : decode cX5_undo 39 = .ok (.getfield 33, 3) := by decide +kernel
theorem dX5_undo_42 : decode cX5_undo 42 = .ok (.sipush 149, 3) := by decide +kernel
theorem dX5_undo_45 : decode cX5_undo 45 = .ok (.imul, 1) := by decide +kernel
theorem dX5_undo_46 : decode cX5_undo 46 = .ok (.iload_n 1, 1) := by decide +kernel
theorem dX5_undo_47 : decode cX5_undo 47 = .ok (.iadd, 1) := by decide +kernel
theorem dX5_undo_48 : decode cX5_undo 48 = .ok (.iaload, 1) := by decide +kernel
theorem dX5_undo_49 : decode cX5_undo 49 = .ok (.iastore, 1) := by decide +kernel
theorem dX5_undo_50 : decode cX5_undo 50 = .ok (.iinc 1 1, 3) := by decide +kernel
theorem dX5_undo_53 : decode cX5_undo 53 = .ok (.goto (-31), 3) := by decide +kernel
theorem dX5_undo_56 : decode cX5_undo 56 = .ok (.aload_n 0, 1) := by decide +kernel
theorem dX5_undo_57 : decode cX5_undo 57 = .ok (.getfield 33, 3) := by decide +kernel
theorem dX5_undo_60 : decode cX5_undo 60 = .ok (.ireturn, 1) := by decide +kernel
theorem dX5_keep_0 : decode cX5_keep 0 = .ok (.iconst 0, 1) := by decide +kernel
theorem dX5_keep_1 : decode cX5_keep 1 = .ok (.istore_n 1, 1) := by decide +kernel
theorem dX5_keep_2 : decode cX5_keep 2 = .ok (.iload_n 1, 1) := by decide +kernel
theorem dX5_keep_3 : decode cX5_keep 3 = .ok (.sipush 149, 3) := by decide +kernel
theorem dX5_keep_6 : decode cX5_keep 6 = .ok (.if_icmp .ge 21, 3) := by decide +kernel
theorem dX5_keep_9 : decode cX5_keep 9 = .ok (.aload_n 0, 1) := by decide +kernel
theorem dX5_keep_10 : decode cX5_keep 10 = .ok (.getfield 19, 3) := by decide +kernel
theorem dX5_keep_13 : decode cX5_keep 13 = .ok (.iload_n 1, 1) := by decide +kernel
theorem dX5_keep_14 : decode cX5_keep 14 = .ok (.aload_n 0, 1) := by decide +kernel
theorem dX5_keep_15 : decode cX5_keep 15 = .ok (.getfield 7, 3) := by decide +kernel
theorem dX5_keep_18 : decode cX5_keep 18 = .ok (.iload_n 1, 1) := by decide +kernel
theorem dX5_keep_19 : decode cX5_keep 19 = .ok (.iaload, 1) := by decide +kernel
theorem dX5_keep_20 : decode cX5_keep 20 = .ok (.iastore, 1) := by decide +kernel
theorem dX5_keep_21 : decode cX5_keep 21 = .ok (.iinc 1 1, 3) := by decide +kernel
theorem dX5_keep_24 : decode cX5_keep 24 = .ok (.goto (-22), 3) := by decide +kernel
theorem dX5_keep_27 : decode cX5_keep 27 = .ok (.aload_n 0, 1) := by decide +kernel
theorem dX5_keep_28 : decode cX5_keep 28 = .ok (.iconst 1, 1) := by decide +kernel
theorem dX5_keep_29 : decode cX5_keep 29 = .ok (.putfield 44, 3) := by decide +kernel
theorem dX5_keep_32 : decode cX5_keep 32 = .ok (.aload_n 0, 1) := by decide +kernel
theorem dX5_keep_33 : decode cX5_keep 33 = .ok (.getfield 7, 3) := by decide +kernel
theorem dX5_keep_36 : decode cX5_keep 36 = .ok (.iconst 2, 1) := by decide +kernel
theorem dX5_keep_37 : decode cX5_keep 37 = .ok (.iaload, 1) := by decide +kernel
theorem dX5_keep_38 : decode cX5_keep 38 = .ok (.ireturn, 1) := by decide +kernel
theorem dX5_restore_0 : decode cX5_restore 0 = .ok (.aload_n 0, 1) := by decide +kernel
theorem dX5_restore_1 : decode cX5_restore 1 = .ok (.getfield 44, 3) := by decide +kernel
theorem dX5_restore_4 : decode cX5_restore 4 = .ok (.ifCond .ne 6, 3) := by decide +kernel
theorem dX5_restore_7 : decode cX5_restore 7 = .ok (.bipush (-5), 2) := by decide +kernel
theorem dX5_restore_9 : decode cX5_restore 9 = .ok (.ireturn, 1) := by decide +kernel
theorem dX5_restore_10 : decode cX5_restore 10 = .ok (.aload_n 0, 1) := by decide +kernel
theorem dX5_restore_11 : decode cX5_restore 11 = .ok (.invokevirtual 48, 3) := by decide +kernel
theorem dX5_restore_14 : decode cX5_restore 14 = .ok (.aload_n 0, 1) := by decide +kernel
theorem dX5_restore_15 : decode cX5_restore 15 = .ok (.invokevirtual 41, 3) := by decide +kernel
theorem dX5_restore_18 : decode cX5_restore 18 = .ok (.iconst 0, 1) := by decide +kernel
theorem dX5_restore_19 : decode cX5_restore 19 = .ok (.istore_n 1, 1) := by decide +kernel
theorem dX5_restore_20 : decode cX5_restore 20 = .ok (.iload_n 1, 1) := by decide +kernel
theorem dX5_restore_21 : decode cX5_restore 21 = .ok (.sipush 149, 3) := by decide +kernel
theorem dX5_restore_24 : decode cX5_restore 24 = .ok (.if_icmp .ge 21, 3) := by decide +kernel
theorem dX5_restore_27 : decode cX5_restore 27 = .ok (.aload_n 0, 1) := by decide +kernel
theorem dX5_restore_28 : decode cX5_restore 28 = .ok (.getfield 7, 3) := by decide +kernel
theorem dX5_restore_31 : decode cX5_restore 31 = .ok (.iload_n 1, 1) := by decide +kernel
theorem dX5_restore_32 : decode cX5_restore 32 = .ok (.aload_n 0, 1) := by decide +kernel
theorem dX5_restore_33 : decode cX5_restore 33 = .ok (.getfield 19, 3) := by decide +kernel
theorem dX5_restore_36 : decode cX5_restore 36 = .ok (.iload_n 1, 1) := by decide +kernel
theorem dX5_restore_37 : decode cX5_restore 37 = .ok (.iaload, 1) := by decide +kernel
theorem dX5_restore_38 : decode cX5_restore 38 = .ok (.iastore, 1) := by decide +kernel
theorem dX5_restore_39 : decode cX5_restore 39 = .ok (.iinc 1 1, 3) := by decide +kernel
theorem dX5_restore_42 : decode cX5_restore 42 = .ok (.goto (-22), 3) := by decide +kernel
theorem dX5_restore_45 : decode cX5_restore 45 = .ok (.aload_n 0, 1) := by decide +kernel
theorem dX5_restore_46 : decode cX5_restore 46 = .ok (.getfield 7, 3) := by decide +kernel
theorem dX5_restore_49 : decode cX5_restore 49 = .ok (.iconst 2, 1) := by decide +kernel
theorem dX5_restore_50 : decode cX5_restore 50 = .ok (.iaload, 1) := by decide +kernel
theorem dX5_restore_51 : decode cX5_restore 51 = .ok (.ireturn, 1) := by decide +kernel
theorem dX5_weighs_0 : decode cX5_weighs 0 = .ok (.iconst 0, 1) := by decide +kernel
theorem dX5_weighs_1 : decode cX5_weighs 1 = .ok (.istore 4, 2) := by decide +kernel
theorem dX5_weighs_3 : decode cX5_weighs 3 = .ok (.iconst 0, 1) := by decide +kernel
theorem dX5_weighs_4 : decode cX5_weighs 4 = .ok (.istore 5, 2) := by decide +kernel
theorem dX5_weighs_6 : decode cX5_weighs 6 = .ok (.iload 5, 2) := by decide +kernel
theorem dX5_weighs_8 : decode cX5_weighs 8 = .ok (.aload_n 0, 1) := by decide +kernel
theorem dX5_weighs_9 : decode cX5_weighs 9 = .ok (.getfield 7, 3) := by decide +kernel
theorem dX5_weighs_12 : decode cX5_weighs 12 = .ok (.bipush 10, 2) := by decide +kernel
theorem dX5_weighs_14 : decode cX5_weighs 14 = .ok (.iaload, 1) := by decide +kernel
theorem dX5_weighs_15 : decode cX5_weighs 15 = .ok (.if_icmp .ge 94, 3) := by decide +kernel
theorem dX5_weighs_18 : decode cX5_weighs 18 = .ok (.aload_n 0, 1) := by decide +kernel
theorem dX5_weighs_19 : decode cX5_weighs 19 = .ok (.iload 5, 2) := by decide +kernel
theorem dX5_weighs_21 : decode cX5_weighs 21 = .ok (.iconst 0, 1) := by decide +kernel
theorem dX5_weighs_22 : decode cX5_weighs 22 = .ok (.invokevirtual 29, 3) := by decide +kernel
theorem dX5_weighs_25 : decode cX5_weighs 25 = .ok (.iload_n 1, 1) := by decide +kernel
theorem dX5_weighs_26 : decode cX5_weighs 26 = .ok (.if_icmp .ne 7, 3) := by decide +kernel
theorem dX5_weighs_29 : decode cX5_weighs 29 = .ok (.iconst 1, 1) := by decide +kernel
theorem dX5_weighs_30 : decode cX5_weighs 30 = .ok (.goto 4, 3) := by decide +kernel
theorem dX5_weighs_33 : decode cX5_weighs 33 = .ok (.iconst 0, 1) := by decide +kernel
theorem dX5_weighs_34 : decode cX5_weighs 34 = .ok (.istore 6, 2) := by decide +kernel
theorem dX5_weighs_36 : decode cX5_weighs 36 = .ok (.iload 4, 2) := by decide +kernel
theorem dX5_weighs_38 : decode cX5_weighs 38 = .ok (.iload 6, 2) := by decide +kernel
theorem dX5_weighs_40 : decode cX5_weighs 40 = .ok (.ifCond .eq 32, 3) := by decide +kernel
theorem dX5_weighs_43 : decode cX5_weighs 43 = .ok (.aload_n 0, 1) := by decide +kernel
theorem dX5_weighs_44 : decode cX5_weighs 44 = .ok (.iload 5, 2) := by decide +kernel
theorem dX5_weighs_46 : decode cX5_weighs 46 = .ok (.iconst 3, 1) := by decide +kernel
theorem dX5_weighs_47 : decode cX5_weighs 47 = .ok (.invokevirtual 29, 3) := by decide +kernel
theorem dX5_weighs_50 : decode cX5_weighs 50 = .ok (.iload_n 2, 1) := by decide +kernel
theorem dX5_weighs_51 : decode cX5_weighs 51 = .ok (.if_icmp .ne 21, 3) := by decide +kernel
theorem dX5_weighs_54 : decode cX5_weighs 54 = .ok (.aload_n 0, 1) := by decide +kernel
theorem dX5_weighs_55 : decode cX5_weighs 55 = .ok (.iload 5, 2) := by decide +kernel
theorem dX5_weighs_57 : decode cX5_weighs 57 = .ok (.iconst 4, 1) := by decide +kernel
theorem dX5_weighs_58 : decode cX5_weighs 58 = .ok (.invokevirtual 29, 3) := by decide +kernel
theorem dX5_weighs_61 : decode cX5_weighs 61 = .ok (.aload_n 0, 1) := by decide +kernel
theorem dX5_weighs_62 : decode cX5_weighs 62 = .ok (.iload 5, 2) := by decide +kernel
theorem dX5_weighs_64 : decode cX5_weighs 64 = .ok (.iconst 1, 1) := by decide +kernel
theorem dX5_weighs_65 : decode cX5_weighs 65 = .ok (.invokevirtual 29, 3) := by decide +kernel
theorem dX5_weighs_68 : decode cX5_weighs 68 = .ok (.imul, 1) := by decide +kernel
theorem dX5_weighs_69 : decode cX5_weighs 69 = .ok (.goto 4, 3) := by decide +kernel
theorem dX5_weighs_72 : decode cX5_weighs 72 = .ok (.iconst 0, 1) := by decide +kernel
theorem dX5_weighs_73 : decode cX5_weighs 73 = .ok (.iadd, 1) := by decide +kernel
theorem dX5_weighs_74 : decode cX5_weighs 74 = .ok (.istore 4, 2) := by decide +kernel
theorem dX5_weighs_76 : decode cX5_weighs 76 = .ok (.iload 4, 2) := by decide +kernel
theorem dX5_weighs_78 : decode cX5_weighs 78 = .ok (.iload 6, 2) := by decide +kernel
theorem dX5_weighs_80 : decode cX5_weighs 80 = .ok (.ifCond .eq 19, 3) := by decide +kernel
theorem dX5_weighs_83 : decode cX5_weighs 83 = .ok (.aload_n 0, 1) := by decide +kernel
theorem dX5_weighs_84 : decode cX5_weighs 84 = .ok (.iload 5, 2) := by decide +kernel
theorem dX5_weighs_86 : decode cX5_weighs 86 = .ok (.iconst 5, 1) := by decide +kernel
theorem dX5_weighs_87 : decode cX5_weighs 87 = .ok (.iload_n 2, 1) := by decide +kernel
theorem dX5_weighs_88 : decode cX5_weighs 88 = .ok (.iadd, 1) := by decide +kernel
theorem dX5_weighs_89 : decode cX5_weighs 89 = .ok (.invokevirtual 29, 3) := by decide +kernel
theorem dX5_weighs_92 : decode cX5_weighs 92 = .ok (.iload_n 3, 1) := by decide +kernel
theorem dX5_weighs_93 : decode cX5_weighs 93 = .ok (.imul, 1) := by decide +kernel
theorem dX5_weighs_94 : decode cX5_weighs 94 = .ok (.iconst 4, 1) := by decide +kernel
theorem dX5_weighs_95 : decode cX5_weighs 95 = .ok (.imul, 1) := by decide +kernel
theorem dX5_weighs_96 : decode cX5_weighs 96 = .ok (.goto 4, 3) := by decide +kernel
theorem dX5_weighs_99 : decode cX5_weighs 99 = .ok (.iconst 0, 1) := by decide +kernel
theorem dX5_weighs_100 : decode cX5_weighs 100 = .ok (.iadd, 1) := by decide +kernel
theorem dX5_weighs_101 : decode cX5_weighs 101 = .ok (.istore 4, 2) := by decide +kernel
theorem dX5_weighs_103 : decode cX5_weighs 103 = .ok (.iinc 5 1, 3) := by decide +kernel
theorem dX5_weighs_106 : decode cX5_weighs 106 = .ok (.goto (-100), 3) := by decide +kernel
theorem dX5_weighs_109 : decode cX5_weighs 109 = .ok (.iload 4, 2) := by decide +kernel
theorem dX5_weighs_111 : decode cX5_weighs 111 = .ok (.ireturn, 1) := by decide +kernel
theorem dX5_speaker_0 : decode cX5_speaker 0 = .ok (.bipush (-5), 2) := by decide +kernel
theorem dX5_speaker_2 : decode cX5_speaker 2 = .ok (.istore_n 2, 1) := by decide +kernel
theorem dX5_speaker_3 : decode cX5_speaker 3 = .ok (.iconst 0, 1) := by decide +kernel
theorem dX5_speaker_4 : decode cX5_speaker 4 = .ok (.istore_n 3, 1) := by decide +kernel
theorem dX5_speaker_5 : decode cX5_speaker 5 = .ok (.iload_n 3, 1) := by decide +kernel
theorem dX5_speaker_6 : decode cX5_speaker 6 = .ok (.aload_n 0, 1) := by decide +kernel
theorem dX5_speaker_7 : decode cX5_speaker 7 = .ok (.getfield 7, 3) := by decide +kernel
theorem dX5_speaker_10 : decode cX5_speaker 10 = .ok (.bipush 10, 2) := by decide +kernel
theorem dX5_speaker_12 : decode cX5_speaker 12 = .ok (.iaload, 1) := by decide +kernel
theorem dX5_speaker_13 : decode cX5_speaker 13 = .ok (.if_icmp .ge 88, 3) := by decide +kernel
theorem dX5_speaker_16 : decode cX5_speaker 16 = .ok (.aload_n 0, 1) := by decide +kernel
theorem dX5_speaker_17 : decode cX5_speaker 17 = .ok (.iload_n 3, 1) := by decide +kernel
theorem dX5_speaker_18 : decode cX5_speaker 18 = .ok (.iconst 0, 1) := by decide +kernel
theorem dX5_speaker_19 : decode cX5_speaker 19 = .ok (.invokevirtual 29, 3) := by decide +kernel
theorem dX5_speaker_22 : decode cX5_speaker 22 = .ok (.iload_n 1, 1) := by decide +kernel
theorem dX5_speaker_23 : decode cX5_speaker 23 = .ok (.if_icmp .ne 72, 3) := by decide +kernel
theorem dX5_speaker_26 : decode cX5_speaker 26 = .ok (.iload_n 2, 1) := by decide +kernel
theorem dX5_speaker_27 : decode cX5_speaker 27 = .ok (.bipush (-5), 2) := by decide +kernel
theorem dX5_speaker_29 : decode cX5_speaker 29 = .ok (.if_icmp .eq 48, 3) := by decide +kernel
theorem dX5_speaker_32 : decode cX5_speaker 32 = .ok (.aload_n 0, 1) := by decide +kernel
theorem dX5_speaker_33 : decode cX5_speaker 33 = .ok (.iload_n 3, 1) := by decide +kernel
theorem dX5_speaker_34 : decode cX5_speaker 34 = .ok (.iconst 1, 1) := by decide +kernel
theorem dX5_speaker_35 : decode cX5_speaker 35 = .ok (.invokevirtual 29, 3) := by decide +kernel
theorem dX5_speaker_38 : decode cX5_speaker 38 = .ok (.aload_n 0, 1) := by decide +kernel
theorem dX5_speaker_39 : decode cX5_speaker 39 = .ok (.iload_n 2, 1) := by decide +kernel
theorem dX5_speaker_40 : decode cX5_speaker 40 = .ok (.iconst 1, 1) := by decide +kernel
theorem dX5_speaker_41 : decode cX5_speaker 41 = .ok (.invokevirtual 29, 3) := by decide +kernel
theorem dX5_speaker_44 : decode cX5_speaker 44 = .ok (.if_icmp .gt 33, 3) := by decide +kernel
theorem dX5_speaker_47 : decode cX5_speaker 47 = .ok (.aload_n 0, 1) := by decide +kernel
theorem dX5_speaker_48 : decode cX5_speaker 48 = .ok (.iload_n 3, 1) := by decide +kernel
theorem dX5_speaker_49 : decode cX5_speaker 49 = .ok (.iconst 1, 1) := by decide +kernel
theorem dX5_speaker_50 : decode cX5_speaker 50 = .ok (.invokevirtual 29, 3) := by decide +kernel
theorem dX5_speaker_53 : decode cX5_speaker 53 = .ok (.aload_n 0, 1) := by decide +kernel
theorem dX5_speaker_54 : decode cX5_speaker 54 = .ok (.iload_n 2, 1) := by decide +kernel
theorem dX5_speaker_55 : decode cX5_speaker 55 = .ok (.iconst 1, 1) := by decide +kernel
theorem dX5_speaker_56 : decode cX5_speaker 56 = .ok (.invokevirtual 29, 3) := by decide +kernel
theorem dX5_speaker_59 : decode cX5_speaker 59 = .ok (.if_icmp .ne 22, 3) := by decide +kernel
theorem dX5_speaker_62 : decode cX5_speaker 62 = .ok (.aload_n 0, 1) := by decide +kernel
theorem dX5_speaker_63 : decode cX5_speaker 63 = .ok (.iload_n 3, 1) := by decide +kernel
theorem dX5_speaker_64 : decode cX5_speaker 64 = .ok (.iconst 4, 1) := by decide +kernel
theorem dX5_speaker_65 : decode cX5_speaker 65 = .ok (.invokevirtual 29, 3) := by decide +kernel
theorem dX5_speaker_68 : decode cX5_speaker 68 = .ok (.aload_n 0, 1) := by decide +kernel
theorem dX5_speaker_69 : decode cX5_speaker 69 = .ok (.iload_n 2, 1) := by decide +kernel
theorem dX5_speaker_70 : decode cX5_speaker 70 = .ok (.iconst 4, 1) := by decide +kernel
theorem dX5_speaker_71 : decode cX5_speaker 71 = .ok (.invokevirtual 29, 3) := by decide +kernel
theorem dX5_speaker_74 : decode cX5_speaker 74 = .ok (.if_icmp .le 7, 3) := by decide +kernel
theorem dX5_speaker_77 : decode cX5_speaker 77 = .ok (.iconst 1, 1) := by decide +kernel
theorem dX5_speaker_78 : decode cX5_speaker 78 = .ok (.goto 4, 3) := by decide +kernel
theorem dX5_speaker_81 : decode cX5_speaker 81 = .ok (.iconst 0, 1) := by decide +kernel
theorem dX5_speaker_82 : decode cX5_speaker 82 = .ok (.istore 4, 2) := by decide +kernel
theorem dX5_speaker_84 : decode cX5_speaker 84 = .ok (.iload 4, 2) := by decide +kernel
theorem dX5_speaker_86 : decode cX5_speaker 86 = .ok (.ifCond .eq 7, 3) := by decide +kernel
theorem dX5_speaker_89 : decode cX5_speaker 89 = .ok (.iload_n 3, 1) := by decide +kernel
theorem dX5_speaker_90 : decode cX5_speaker 90 = .ok (.goto 4, 3) := by decide +kernel
theorem dX5_speaker_93 : decode cX5_speaker 93 = .ok (.iload_n 2, 1) := by decide +kernel
theorem dX5_speaker_94 : decode cX5_speaker 94 = .ok (.istore_n 2, 1) := by decide +kernel
theorem dX5_speaker_95 : decode cX5_speaker 95 = .ok (.iinc 3 1, 3) := by decide +kernel
theorem dX5_speaker_98 : decode cX5_speaker 98 = .ok (.goto (-93), 3) := by decide +kernel
theorem dX5_speaker_101 : decode cX5_speaker 101 = .ok (.iload_n 2, 1) := by decide +kernel
theorem dX5_speaker_102 : decode cX5_speaker 102 = .ok (.ireturn, 1) := by decide +kernel
theorem dX5_greatest_0 : decode cX5_greatest 0 = .ok (.iconst 0, 1) := by decide +kernel
theorem dX5_greatest_1 : decode cX5_greatest 1 = .ok (.istore_n 3, 1) := by decide +kernel
theorem dX5_greatest_2 : decode cX5_greatest 2 = .ok (.iconst 0, 1) := by decide +kernel
theorem dX5_greatest_3 : decode cX5_greatest 3 = .ok (.istore 4, 2) := by decide +kernel
theorem dX5_greatest_5 : decode cX5_greatest 5 = .ok (.iload 4, 2) := by decide +kernel
theorem dX5_greatest_7 : decode cX5_greatest 7 = .ok (.iconst 4, 1) := by decide +kernel
theorem dX5_greatest_8 : decode cX5_greatest 8 = .ok (.if_icmp .ge 34, 3) := by decide +kernel
theorem dX5_greatest_11 : decode cX5_greatest 11 = .ok (.aload_n 0, 1) := by decide +kernel
theorem dX5_greatest_12 : decode cX5_greatest 12 = .ok (.iload_n 1, 1) := by decide +kernel
theorem dX5_greatest_13 : decode cX5_greatest 13 = .ok (.iload 4, 2) := by decide +kernel
theorem dX5_greatest_15 : decode cX5_greatest 15 = .ok (.iload_n 2, 1) := by decide +kernel
theorem dX5_greatest_16 : decode cX5_greatest 16 = .ok (.invokevirtual 51, 3) := by decide +kernel
theorem dX5_greatest_19 : decode cX5_greatest 19 = .ok (.iload_n 3, 1) := by decide +kernel
theorem dX5_greatest_20 : decode cX5_greatest 20 = .ok (.if_icmp .le 14, 3) := by decide +kernel
theorem dX5_greatest_23 : decode cX5_greatest 23 = .ok (.aload_n 0, 1) := by decide +kernel
theorem dX5_greatest_24 : decode cX5_greatest 24 = .ok (.iload_n 1, 1) := by decide +kernel
theorem dX5_greatest_25 : decode cX5_greatest 25 = .ok (.iload 4, 2) := by decide +kernel
theorem dX5_greatest_27 : decode cX5_greatest 27 = .ok (.iload_n 2, 1) := by decide +kernel
theorem dX5_greatest_28 : decode cX5_greatest 28 = .ok (.invokevirtual 51, 3) := by decide +kernel
theorem dX5_greatest_31 : decode cX5_greatest 31 = .ok (.goto 4, 3) := by decide +kernel
theorem dX5_greatest_34 : decode cX5_greatest 34 = .ok (.iload_n 3, 1) := by decide +kernel
theorem dX5_greatest_35 : decode cX5_greatest 35 = .ok (.istore_n 3, 1) := by decide +kernel
theorem dX5_greatest_36 : decode cX5_greatest 36 = .ok (.iinc 4 1, 3) := by decide +kernel
theorem dX5_greatest_39 : decode cX5_greatest 39 = .ok (.goto (-34), 3) := by decide +kernel
theorem dX5_greatest_42 : decode cX5_greatest 42 = .ok (.iload_n 3, 1) := by decide +kernel
theorem dX5_greatest_43 : decode cX5_greatest 43 = .ok (.ireturn, 1) := by decide +kernel
theorem dX5_leaders_0 : decode cX5_leaders 0 = .ok (.aload_n 0, 1) := by decide +kernel
theorem dX5_leaders_1 : decode cX5_leaders 1 = .ok (.iload_n 1, 1) := by decide +kernel
theorem dX5_leaders_2 : decode cX5_leaders 2 = .ok (.iload_n 2, 1) := by decide +kernel
theorem dX5_leaders_3 : decode cX5_leaders 3 = .ok (.invokevirtual 55, 3) := by decide +kernel
theorem dX5_leaders_6 : decode cX5_leaders 6 = .ok (.istore_n 3, 1) := by decide +kernel
theorem dX5_leaders_7 : decode cX5_leaders 7 = .ok (.iconst 0, 1) := by decide +kernel
theorem dX5_leaders_8 : decode cX5_leaders 8 = .ok (.istore 4, 2) := by decide +kernel
theorem dX5_leaders_10 : decode cX5_leaders 10 = .ok (.iconst 0, 1) := by decide +kernel
theorem dX5_leaders_11 : decode cX5_leaders 11 = .ok (.istore 5, 2) := by decide +kernel
theorem dX5_leaders_13 : decode cX5_leaders 13 = .ok (.iload 5, 2) := by decide +kernel
theorem dX5_leaders_15 : decode cX5_leaders 15 = .ok (.iconst 4, 1) := by decide +kernel
theorem dX5_leaders_16 : decode cX5_leaders 16 = .ok (.if_icmp .ge 38, 3) := by decide +kernel
theorem dX5_leaders_19 : decode cX5_leaders 19 = .ok (.iload 4, 2) := by decide +kernel
theorem dX5_leaders_21 : decode cX5_leaders 21 = .ok (.iload_n 3, 1) := by decide +kernel
theorem dX5_leaders_22 : decode cX5_leaders 22 = .ok (.ifCond .le 22, 3) := by decide +kernel
theorem dX5_leaders_25 : decode cX5_leaders 25 = .ok (.aload_n 0, 1) := by decide +kernel
theorem dX5_leaders_26 : decode cX5_leaders 26 = .ok (.iload_n 1, 1) := by decide +kernel
theorem dX5_leaders_27 : decode cX5_leaders 27 = .ok (.iload 5, 2) := by decide +kernel
theorem dX5_leaders_29 : decode cX5_leaders 29 = .ok (.iload_n 2, 1) := by decide +kernel
theorem dX5_leaders_30 : decode cX5_leaders 30 = .ok (.invokevirtual 51, 3) := by decide +kernel
theorem dX5_leaders_33 : decode cX5_leaders 33 = .ok (.iload_n 3, 1) := by decide +kernel
theorem dX5_leaders_34 : decode cX5_leaders 34 = .ok (.if_icmp .ne 10, 3) := by decide +kernel
theorem dX5_leaders_37 : decode cX5_leaders 37 = .ok (.iconst 1, 1) := by decide +kernel
theorem dX5_leaders_38 : decode cX5_leaders 38 = .ok (.iload 5, 2) := by decide +kernel
theorem dX5_leaders_40 : decode cX5_leaders 40 = .ok (.ishl, 1) := by decide +kernel
theorem dX5_leaders_41 : decode cX5_leaders 41 = .ok (.goto 4, 3) := by decide +kernel
theorem dX5_leaders_44 : decode cX5_leaders 44 = .ok (.iconst 0, 1) := by decide +kernel
theorem dX5_leaders_45 : decode cX5_leaders 45 = .ok (.ior, 1) := by decide +kernel
theorem dX5_leaders_46 : decode cX5_leaders 46 = .ok (.istore 4, 2) := by decide +kernel
theorem dX5_leaders_48 : decode cX5_leaders 48 = .ok (.iinc 5 1, 3) := by decide +kernel
theorem dX5_leaders_51 : decode cX5_leaders 51 = .ok (.goto (-38), 3) := by decide +kernel
theorem dX5_leaders_54 : decode cX5_leaders 54 = .ok (.iload 4, 2) := by decide +kernel
theorem dX5_leaders_56 : decode cX5_leaders 56 = .ok (.ireturn, 1) := by decide +kernel
theorem dX5_lowest_0 : decode cX5_lowest 0 = .ok (.iconst 0, 1) := by decide +kernel
theorem dX5_lowest_1 : decode cX5_lowest 1 = .ok (.istore_n 1, 1) := by decide +kernel
theorem dX5_lowest_2 : decode cX5_lowest 2 = .ok (.iload_n 0, 1) := by decide +kernel
theorem dX5_lowest_3 : decode cX5_lowest 3 = .ok (.iload_n 1, 1) := by decide +kernel
theorem dX5_lowest_4 : decode cX5_lowest 4 = .ok (.ishr, 1) := by decide +kernel
theorem dX5_lowest_5 : decode cX5_lowest 5 = .ok (.iconst 1, 1) := by decide +kernel
theorem dX5_lowest_6 : decode cX5_lowest 6 = .ok (.iand, 1) := by decide +kernel
theorem dX5_lowest_7 : decode cX5_lowest 7 = .ok (.ifCond .ne 9, 3) := by decide +kernel
theorem dX5_lowest_10 : decode cX5_lowest 10 = .ok (.iinc 1 1, 3) := by decide +kernel
theorem dX5_lowest_13 : decode cX5_lowest 13 = .ok (.goto (-11), 3) := by decide +kernel
theorem dX5_lowest_16 : decode cX5_lowest 16 = .ok (.iload_n 1, 1) := by decide +kernel
theorem dX5_lowest_17 : decode cX5_lowest 17 = .ok (.ireturn, 1) := by decide +kernel
theorem dX5_votes_0 : decode cX5_votes 0 = .ok (.aload_n 0, 1) := by decide +kernel
theorem dX5_votes_1 : decode cX5_votes 1 = .ok (.iload_n 1, 1) := by decide +kernel
theorem dX5_votes_2 : decode cX5_votes 2 = .ok (.iload_n 2, 1) := by decide +kernel
theorem dX5_votes_3 : decode cX5_votes 3 = .ok (.invokevirtual 58, 3) := by decide +kernel
theorem dX5_votes_6 : decode cX5_votes 6 = .ok (.istore_n 3, 1) := by decide +kernel
theorem dX5_votes_7 : decode cX5_votes 7 = .ok (.iload_n 3, 1) := by decide +kernel
theorem dX5_votes_8 : decode cX5_votes 8 = .ok (.ifCond .ne 6, 3) := by decide +kernel
theorem dX5_votes_11 : decode cX5_votes 11 = .ok (.bipush (-5), 2) := by decide +kernel
theorem dX5_votes_13 : decode cX5_votes 13 = .ok (.ireturn, 1) := by decide +kernel
theorem dX5_votes_14 : decode cX5_votes 14 = .ok (.aload_n 0, 1) := by decide +kernel
theorem dX5_votes_15 : decode cX5_votes 15 = .ok (.aload_n 0, 1) := by decide +kernel
theorem dX5_votes_16 : decode cX5_votes 16 = .ok (.iload_n 1, 1) := by decide +kernel
theorem dX5_votes_17 : decode cX5_votes 17 = .ok (.invokevirtual 61, 3) := by decide +kernel
theorem dX5_votes_20 : decode cX5_votes 20 = .ok (.iconst 3, 1) := by decide +kernel
theorem dX5_votes_21 : decode cX5_votes 21 = .ok (.invokevirtual 29, 3) := by decide +kernel
theorem dX5_votes_24 : decode cX5_votes 24 = .ok (.istore 4, 2) := by decide +kernel
theorem dX5_votes_26 : decode cX5_votes 26 = .ok (.iload_n 3, 1) := by decide +kernel
theorem dX5_votes_27 : decode cX5_votes 27 = .ok (.iload 4, 2) := by decide +kernel
theorem dX5_votes_29 : decode cX5_votes 29 = .ok (.ishr, 1) := by decide +kernel
theorem dX5_votes_30 : decode cX5_votes 30 = .ok (.iconst 1, 1) := by decide +kernel
theorem dX5_votes_31 : decode cX5_votes 31 = .ok (.iand, 1) := by decide +kernel
theorem dX5_votes_32 : decode cX5_votes 32 = .ok (.iconst 1, 1) := by decide +kernel
theorem dX5_votes_33 : decode cX5_votes 33 = .ok (.if_icmp .ne 8, 3) := by decide +kernel
theorem dX5_votes_36 : decode cX5_votes 36 = .ok (.iload 4, 2) := by decide +kernel
theorem dX5_votes_38 : decode cX5_votes 38 = .ok (.goto 7, 3) := by decide +kernel
theorem dX5_votes_41 : decode cX5_votes 41 = .ok (.iload_n 3, 1) := by decide +kernel
theorem dX5_votes_42 : decode cX5_votes 42 = .ok (.invokestatic 65, 3) := by decide +kernel
theorem dX5_votes_45 : decode cX5_votes 45 = .ok (.ireturn, 1) := by decide +kernel
theorem dX5_allSeats_0 : decode cX5_allSeats 0 = .ok (.iconst 0, 1) := by decide +kernel
theorem dX5_allSeats_1 : decode cX5_allSeats 1 = .ok (.istore_n 1, 1) := by decide +kernel
theorem dX5_allSeats_2 : decode cX5_allSeats 2 = .ok (.iconst 0, 1) := by decide +kernel
theorem dX5_allSeats_3 : decode cX5_allSeats 3 = .ok (.istore_n 2, 1) := by decide +kernel
theorem dX5_allSeats_4 : decode cX5_allSeats 4 = .ok (.iload_n 2, 1) := by decide +kernel
theorem dX5_allSeats_5 : decode cX5_allSeats 5 = .ok (.bipush 6, 2) := by decide +kernel
theorem dX5_allSeats_7 : decode cX5_allSeats 7 = .ok (.if_icmp .ge 21, 3) := by decide +kernel
theorem dX5_allSeats_10 : decode cX5_allSeats 10 = .ok (.iload_n 1, 1) := by decide +kernel
theorem dX5_allSeats_11 : decode cX5_allSeats 11 = .ok (.aload_n 0, 1) := by decide +kernel
theorem dX5_allSeats_12 : decode cX5_allSeats 12 = .ok (.getfield 7, 3) := by decide +kernel
theorem dX5_allSeats_15 : decode cX5_allSeats 15 = .ok (.bipush 11, 2) := by decide +kernel
theorem dX5_allSeats_17 : decode cX5_allSeats 17 = .ok (.iload_n 2, 1) := by decide +kernel
theorem dX5_allSeats_18 : decode cX5_allSeats 18 = .ok (.iadd, 1) := by decide +kernel
theorem dX5_allSeats_19 : decode cX5_allSeats 19 = .ok (.iaload, 1) := by decide +kernel
theorem dX5_allSeats_20 : decode cX5_allSeats 20 = .ok (.iadd, 1) := by decide +kernel
theorem dX5_allSeats_21 : decode cX5_allSeats 21 = .ok (.istore_n 1, 1) := by decide +kernel
theorem dX5_allSeats_22 : decode cX5_allSeats 22 = .ok (.iinc 2 1, 3) := by decide +kernel
theorem dX5_allSeats_25 : decode cX5_allSeats 25 = .ok (.goto (-21), 3) := by decide +kernel
theorem dX5_allSeats_28 : decode cX5_allSeats 28 = .ok (.iload_n 1, 1) := by decide +kernel
theorem dX5_allSeats_29 : decode cX5_allSeats 29 = .ok (.ireturn, 1) := by decide +kernel
theorem dX5_decides_0 : decode cX5_decides 0 = .ok (.iconst 0, 1) := by decide +kernel
theorem dX5_decides_1 : decode cX5_decides 1 = .ok (.istore_n 2, 1) := by decide +kernel
theorem dX5_decides_2 : decode cX5_decides 2 = .ok (.iload_n 2, 1) := by decide +kernel
theorem dX5_decides_3 : decode cX5_decides 3 = .ok (.iconst 4, 1) := by decide +kernel
theorem dX5_decides_4 : decode cX5_decides 4 = .ok (.if_icmp .ge 67, 3) := by decide +kernel
theorem dX5_decides_7 : decode cX5_decides 7 = .ok (.iconst 0, 1) := by decide +kernel
theorem dX5_decides_8 : decode cX5_decides 8 = .ok (.istore_n 3, 1) := by decide +kernel
theorem dX5_decides_9 : decode cX5_decides 9 = .ok (.iconst 0, 1) := by decide +kernel
theorem dX5_decides_10 : decode cX5_decides 10 = .ok (.istore 4, 2) := by decide +kernel
theorem dX5_decides_12 : decode cX5_decides 12 = .ok (.iload 4, 2) := by decide +kernel
theorem dX5_decides_14 : decode cX5_decides 14 = .ok (.bipush 6, 2) := by decide +kernel
theorem dX5_decides_16 : decode cX5_decides 16 = .ok (.if_icmp .ge 37, 3) := by decide +kernel
theorem dX5_decides_19 : decode cX5_decides 19 = .ok (.iload_n 3, 1) := by decide +kernel
theorem dX5_decides_20 : decode cX5_decides 20 = .ok (.aload_n 0, 1) := by decide +kernel
theorem dX5_decides_21 : decode cX5_decides 21 = .ok (.iload 4, 2) := by decide +kernel
theorem dX5_decides_23 : decode cX5_decides 23 = .ok (.iload_n 1, 1) := by decide +kernel
theorem dX5_decides_24 : decode cX5_decides 24 = .ok (.invokevirtual 68, 3) := by decide +kernel
theorem dX5_decides_27 : decode cX5_decides 27 = .ok (.iload_n 2, 1) := by decide +kernel
theorem dX5_decides_28 : decode cX5_decides 28 = .ok (.if_icmp .ne 16, 3) := by decide +kernel
theorem dX5_decides_31 : decode cX5_decides 31 = .ok (.aload_n 0, 1) := by decide +kernel
theorem dX5_decides_32 : decode cX5_decides 32 = .ok (.getfield 7, 3) := by decide +kernel
theorem dX5_decides_35 : decode cX5_decides 35 = .ok (.bipush 11, 2) := by decide +kernel
theorem dX5_decides_37 : decode cX5_decides 37 = .ok (.iload 4, 2) := by decide +kernel
theorem dX5_decides_39 : decode cX5_decides 39 = .ok (.iadd, 1) := by decide +kernel
theorem dX5_decides_40 : decode cX5_decides 40 = .ok (.iaload, 1) := by decide +kernel
theorem dX5_decides_41 : decode cX5_decides 41 = .ok (.goto 4, 3) := by decide +kernel
theorem dX5_decides_44 : decode cX5_decides 44 = .ok (.iconst 0, 1) := by decide +kernel
theorem dX5_decides_45 : decode cX5_decides 45 = .ok (.iadd, 1) := by decide +kernel
theorem dX5_decides_46 : decode cX5_decides 46 = .ok (.istore_n 3, 1) := by decide +kernel
theorem dX5_decides_47 : decode cX5_decides 47 = .ok (.iinc 4 1, 3) := by decide +kernel
theorem dX5_decides_50 : decode cX5_decides 50 = .ok (.goto (-38), 3) := by decide +kernel
theorem dX5_decides_53 : decode cX5_decides 53 = .ok (.iconst 2, 1) := by decide +kernel
theorem dX5_decides_54 : decode cX5_decides 54 = .ok (.iload_n 3, 1) := by decide +kernel
theorem dX5_decides_55 : decode cX5_decides 55 = .ok (.imul, 1) := by decide +kernel
theorem dX5_decides_56 : decode cX5_decides 56 = .ok (.aload_n 0, 1) := by decide +kernel
theorem dX5_decides_57 : decode cX5_decides 57 = .ok (.invokevirtual 71, 3) := by decide +kernel
theorem dX5_decides_60 : decode cX5_decides 60 = .ok (.if_icmp .le 5, 3) := by decide +kernel
theorem dX5_decides_63 : decode cX5_decides 63 = .ok (.iload_n 2, 1) := by decide +kernel
theorem dX5_decides_64 : decode cX5_decides 64 = .ok (.ireturn, 1) := by decide +kernel
theorem dX5_decides_65 : decode cX5_decides 65 = .ok (.iinc 2 1, 3) := by decide +kernel
theorem dX5_decides_68 : decode cX5_decides 68 = .ok (.goto (-66), 3) := by decide +kernel
theorem dX5_decides_71 : decode cX5_decides 71 = .ok (.bipush (-5), 2) := by decide +kernel
theorem dX5_decides_73 : decode cX5_decides 73 = .ok (.ireturn, 1) := by decide +kernel
theorem dX5_blowOn_0 : decode cX5_blowOn 0 = .ok (.aload_n 0, 1) := by decide +kernel
theorem dX5_blowOn_1 : decode cX5_blowOn 1 = .ok (.getfield 7, 3) := by decide +kernel
theorem dX5_blowOn_4 : decode cX5_blowOn 4 = .ok (.iconst 4, 1) := by decide +kernel
theorem dX5_blowOn_5 : decode cX5_blowOn 5 = .ok (.iaload, 1) := by decide +kernel
theorem dX5_blowOn_6 : decode cX5_blowOn 6 = .ok (.aload_n 0, 1) := by decide +kernel
theorem dX5_blowOn_7 : decode cX5_blowOn 7 = .ok (.iload_n 1, 1) := by decide +kernel
theorem dX5_blowOn_8 : decode cX5_blowOn 8 = .ok (.iconst 4, 1) := by decide +kernel
theorem dX5_blowOn_9 : decode cX5_blowOn 9 = .ok (.invokevirtual 29, 3) := by decide +kernel
theorem dX5_blowOn_12 : decode cX5_blowOn 12 = .ok (.bipush 32, 2) := by decide +kernel
theorem dX5_blowOn_14 : decode cX5_blowOn 14 = .ok (.if_icmp .ge 7, 3) := by decide +kernel
theorem dX5_blowOn_17 : decode cX5_blowOn 17 = .ok (.iconst 1, 1) := by decide +kernel
theorem dX5_blowOn_18 : decode cX5_blowOn 18 = .ok (.goto 4, 3) := by decide +kernel
theorem dX5_blowOn_21 : decode cX5_blowOn 21 = .ok (.iconst 0, 1) := by decide +kernel
theorem dX5_blowOn_22 : decode cX5_blowOn 22 = .ok (.iadd, 1) := by decide +kernel
theorem dX5_blowOn_23 : decode cX5_blowOn 23 = .ok (.istore_n 2, 1) := by decide +kernel
theorem dX5_blowOn_24 : decode cX5_blowOn 24 = .ok (.aload_n 0, 1) := by decide +kernel
theorem dX5_blowOn_25 : decode cX5_blowOn 25 = .ok (.getfield 7, 3) := by decide +kernel
theorem dX5_blowOn_28 : decode cX5_blowOn 28 = .ok (.iconst 3, 1) := by decide +kernel
theorem dX5_blowOn_29 : decode cX5_blowOn 29 = .ok (.iaload, 1) := by decide +kernel
theorem dX5_blowOn_30 : decode cX5_blowOn 30 = .ok (.aload_n 0, 1) := by decide +kernel
theorem dX5_blowOn_31 : decode cX5_blowOn 31 = .ok (.iload_n 1, 1) := by decide +kernel
theorem dX5_blowOn_32 : decode cX5_blowOn 32 = .ok (.iconst 3, 1) := by decide +kernel
theorem dX5_blowOn_33 : decode cX5_blowOn 33 = .ok (.invokevirtual 29, 3) := by decide +kernel
theorem dX5_blowOn_36 : decode cX5_blowOn 36 = .ok (.isub, 1) := by decide +kernel
theorem dX5_blowOn_37 : decode cX5_blowOn 37 = .ok (.iconst 4, 1) := by decide +kernel
theorem dX5_blowOn_38 : decode cX5_blowOn 38 = .ok (.iadd, 1) := by decide +kernel
theorem dX5_blowOn_39 : decode cX5_blowOn 39 = .ok (.iconst 4, 1) := by decide +kernel
theorem dX5_blowOn_40 : decode cX5_blowOn 40 = .ok (.irem, 1) := by decide +kernel
theorem dX5_blowOn_41 : decode cX5_blowOn 41 = .ok (.istore_n 3, 1) := by decide +kernel
theorem dX5_blowOn_42 : decode cX5_blowOn 42 = .ok (.iload_n 2, 1) := by decide +kernel
theorem dX5_blowOn_43 : decode cX5_blowOn 43 = .ok (.aload_n 0, 1) := by decide +kernel
theorem dX5_blowOn_44 : decode cX5_blowOn 44 = .ok (.iload_n 1, 1) := by decide +kernel
theorem dX5_blowOn_45 : decode cX5_blowOn 45 = .ok (.iconst 2, 1) := by decide +kernel
theorem dX5_blowOn_46 : decode cX5_blowOn 46 = .ok (.invokevirtual 29, 3) := by decide +kernel
theorem dX5_blowOn_49 : decode cX5_blowOn 49 = .ok (.if_icmp .le 7, 3) := by decide +kernel
theorem dX5_blowOn_52 : decode cX5_blowOn 52 = .ok (.iload_n 3, 1) := by decide +kernel
theorem dX5_blowOn_53 : decode cX5_blowOn 53 = .ok (.ifCond .ne 5, 3) := by decide +kernel
theorem dX5_blowOn_56 : decode cX5_blowOn 56 = .ok (.iconst 0, 1) := by decide +kernel
theorem dX5_blowOn_57 : decode cX5_blowOn 57 = .ok (.ireturn, 1) := by decide +kernel
theorem dX5_blowOn_58 : decode cX5_blowOn 58 = .ok (.iload_n 3, 1) := by decide +kernel
theorem dX5_blowOn_59 : decode cX5_blowOn 59 = .ok (.iconst 3, 1) := by decide +kernel
theorem dX5_blowOn_60 : decode cX5_blowOn 60 = .ok (.if_icmp .ne 7, 3) := by decide +kernel
theorem dX5_blowOn_63 : decode cX5_blowOn 63 = .ok (.iconst 3, 1) := by decide +kernel
theorem dX5_blowOn_64 : decode cX5_blowOn 64 = .ok (.goto 4, 3) := by decide +kernel
theorem dX5_blowOn_67 : decode cX5_blowOn 67 = .ok (.iconst 1, 1) := by decide +kernel
theorem dX5_blowOn_68 : decode cX5_blowOn 68 = .ok (.istore 4, 2) := by decide +kernel
theorem dX5_blowOn_70 : decode cX5_blowOn 70 = .ok (.aload_n 0, 1) := by decide +kernel
theorem dX5_blowOn_71 : decode cX5_blowOn 71 = .ok (.iload_n 1, 1) := by decide +kernel
theorem dX5_blowOn_72 : decode cX5_blowOn 72 = .ok (.iconst 3, 1) := by decide +kernel
theorem dX5_blowOn_73 : decode cX5_blowOn 73 = .ok (.aload_n 0, 1) := by decide +kernel
theorem dX5_blowOn_74 : decode cX5_blowOn 74 = .ok (.iload_n 1, 1) := by decide +kernel
theorem dX5_blowOn_75 : decode cX5_blowOn 75 = .ok (.iconst 3, 1) := by decide +kernel
theorem dX5_blowOn_76 : decode cX5_blowOn 76 = .ok (.invokevirtual 29, 3) := by decide +kernel
theorem dX5_blowOn_79 : decode cX5_blowOn 79 = .ok (.iload 4, 2) := by decide +kernel
theorem dX5_blowOn_81 : decode cX5_blowOn 81 = .ok (.iadd, 1) := by decide +kernel
theorem dX5_blowOn_82 : decode cX5_blowOn 82 = .ok (.iconst 4, 1) := by decide +kernel
theorem dX5_blowOn_83 : decode cX5_blowOn 83 = .ok (.irem, 1) := by decide +kernel
theorem dX5_blowOn_84 : decode cX5_blowOn 84 = .ok (.invokevirtual 75, 3) := by decide +kernel
theorem dX5_blowOn_87 : decode cX5_blowOn 87 = .ok (.aload_n 0, 1) := by decide +kernel
theorem dX5_blowOn_88 : decode cX5_blowOn 88 = .ok (.iload_n 1, 1) := by decide +kernel
theorem dX5_blowOn_89 : decode cX5_blowOn 89 = .ok (.bipush 9, 2) := by decide +kernel
theorem dX5_blowOn_91 : decode cX5_blowOn 91 = .ok (.aload_n 0, 1) := by decide +kernel
theorem dX5_blowOn_92 : decode cX5_blowOn 92 = .ok (.iload_n 1, 1) := by decide +kernel
theorem dX5_blowOn_93 : decode cX5_blowOn 93 = .ok (.bipush 9, 2) := by decide +kernel
theorem dX5_blowOn_95 : decode cX5_blowOn 95 = .ok (.invokevirtual 29, 3) := by decide +kernel
theorem dX5_blowOn_98 : decode cX5_blowOn 98 = .ok (.iconst 1, 1) := by decide +kernel
theorem dX5_blowOn_99 : decode cX5_blowOn 99 = .ok (.iadd, 1) := by decide +kernel
theorem dX5_blowOn_100 : decode cX5_blowOn 100 = .ok (.invokevirtual 75, 3) := by decide +kernel
theorem dX5_blowOn_103 : decode cX5_blowOn 103 = .ok (.iconst 1, 1) := by decide +kernel
theorem dX5_blowOn_104 : decode cX5_blowOn 104 = .ok (.ireturn, 1) := by decide +kernel
theorem dX5_pluck_0 : decode cX5_pluck 0 = .ok (.aload_n 0, 1) := by decide +kernel
theorem dX5_pluck_1 : decode cX5_pluck 1 = .ok (.iload_n 1, 1) := by decide +kernel
theorem dX5_pluck_2 : decode cX5_pluck 2 = .ok (.invokevirtual 79, 3) := by decide +kernel
theorem dX5_pluck_5 : decode cX5_pluck 5 = .ok (.istore_n 2, 1) := by decide +kernel
theorem dX5_pluck_6 : decode cX5_pluck 6 = .ok (.aload_n 0, 1) := by decide +kernel
theorem dX5_pluck_7 : decode cX5_pluck 7 = .ok (.iload_n 1, 1) := by decide +kernel
theorem dX5_pluck_8 : decode cX5_pluck 8 = .ok (.iconst 4, 1) := by decide +kernel
theorem dX5_pluck_9 : decode cX5_pluck 9 = .ok (.invokevirtual 29, 3) := by decide +kernel
theorem dX5_pluck_12 : decode cX5_pluck 12 = .ok (.istore_n 3, 1) := by decide +kernel
theorem dX5_pluck_13 : decode cX5_pluck 13 = .ok (.iload_n 2, 1) := by decide +kernel
theorem dX5_pluck_14 : decode cX5_pluck 14 = .ok (.iload_n 3, 1) := by decide +kernel
theorem dX5_pluck_15 : decode cX5_pluck 15 = .ok (.if_icmp .ge 7, 3) := by decide +kernel
theorem dX5_pluck_18 : decode cX5_pluck 18 = .ok (.iload_n 2, 1) := by decide +kernel
theorem dX5_pluck_19 : decode cX5_pluck 19 = .ok (.goto 4, 3) := by decide +kernel
theorem dX5_pluck_22 : decode cX5_pluck 22 = .ok (.iload_n 3, 1) := by decide +kernel
theorem dX5_pluck_23 : decode cX5_pluck 23 = .ok (.istore 4, 2) := by decide +kernel
theorem dX5_pluck_25 : decode cX5_pluck 25 = .ok (.aload_n 0, 1) := by decide +kernel
theorem dX5_pluck_26 : decode cX5_pluck 26 = .ok (.iload_n 1, 1) := by decide +kernel
theorem dX5_pluck_27 : decode cX5_pluck 27 = .ok (.iconst 4, 1) := by decide +kernel
theorem dX5_pluck_28 : decode cX5_pluck 28 = .ok (.iload_n 3, 1) := by decide +kernel
theorem dX5_pluck_29 : decode cX5_pluck 29 = .ok (.iload 4, 2) := by decide +kernel
theorem dX5_pluck_31 : decode cX5_pluck 31 = .ok (.isub, 1) := by decide +kernel
theorem dX5_pluck_32 : decode cX5_pluck 32 = .ok (.invokevirtual 75, 3) := by decide +kernel
theorem dX5_pluck_35 : decode cX5_pluck 35 = .ok (.aload_n 0, 1) := by decide +kernel
theorem dX5_pluck_36 : decode cX5_pluck 36 = .ok (.iload_n 1, 1) := by decide +kernel
theorem dX5_pluck_37 : decode cX5_pluck 37 = .ok (.bipush 10, 2) := by decide +kernel
theorem dX5_pluck_39 : decode cX5_pluck 39 = .ok (.aload_n 0, 1) := by decide +kernel
theorem dX5_pluck_40 : decode cX5_pluck 40 = .ok (.iload_n 1, 1) := by decide +kernel
theorem dX5_pluck_41 : decode cX5_pluck 41 = .ok (.bipush 10, 2) := by decide +kernel
theorem dX5_pluck_43 : decode cX5_pluck 43 = .ok (.invokevirtual 29, 3) := by decide +kernel
theorem dX5_pluck_46 : decode cX5_pluck 46 = .ok (.iload 4, 2) := by decide +kernel
theorem dX5_pluck_48 : decode cX5_pluck 48 = .ok (.iadd, 1) := by decide +kernel
theorem dX5_pluck_49 : decode cX5_pluck 49 = .ok (.invokevirtual 75, 3) := by decide +kernel
theorem dX5_pluck_52 : decode cX5_pluck 52 = .ok (.aload_n 0, 1) := by decide +kernel
theorem dX5_pluck_53 : decode cX5_pluck 53 = .ok (.getfield 7, 3) := by decide +kernel
theorem dX5_pluck_56 : decode cX5_pluck 56 = .ok (.bipush 6, 2) := by decide +kernel
theorem dX5_pluck_58 : decode cX5_pluck 58 = .ok (.dup2, 1) := by decide +kernel
theorem dX5_pluck_59 : decode cX5_pluck 59 = .ok (.iaload, 1) := by decide +kernel
theorem dX5_pluck_60 : decode cX5_pluck 60 = .ok (.iload 4, 2) := by decide +kernel
theorem dX5_pluck_62 : decode cX5_pluck 62 = .ok (.iadd, 1) := by decide +kernel
theorem dX5_pluck_63 : decode cX5_pluck 63 = .ok (.iastore, 1) := by decide +kernel
theorem dX5_pluck_64 : decode cX5_pluck 64 = .ok (.iload_n 3, 1) := by decide +kernel
theorem dX5_pluck_65 : decode cX5_pluck 65 = .ok (.iload 4, 2) := by decide +kernel
theorem dX5_pluck_67 : decode cX5_pluck 67 = .ok (.if_icmp .ne 8, 3) := by decide +kernel
theorem dX5_pluck_70 : decode cX5_pluck 70 = .ok (.aload_n 0, 1) := by decide +kernel
theorem dX5_pluck_71 : decode cX5_pluck 71 = .ok (.iload_n 1, 1) := by decide +kernel
theorem dX5_pluck_72 : decode cX5_pluck 72 = .ok (.invokevirtual 82, 3) := by decide +kernel
theorem dX5_pluck_75 : decode cX5_pluck 75 = .ok (.return_, 1) := by decide +kernel
theorem dX5_flyOff_0 : decode cX5_flyOff 0 = .ok (.iconst 0, 1) := by decide +kernel
theorem dX5_flyOff_1 : decode cX5_flyOff 1 = .ok (.istore_n 2, 1) := by decide +kernel
theorem dX5_flyOff_2 : decode cX5_flyOff 2 = .ok (.iload_n 2, 1) := by decide +kernel
theorem dX5_flyOff_3 : decode cX5_flyOff 3 = .ok (.iconst 4, 1) := by decide +kernel
theorem dX5_flyOff_4 : decode cX5_flyOff 4 = .ok (.if_icmp .ge 18, 3) := by decide +kernel
theorem dX5_flyOff_7 : decode cX5_flyOff 7 = .ok (.aload_n 0, 1) := by decide +kernel
theorem dX5_flyOff_8 : decode cX5_flyOff 8 = .ok (.iload_n 1, 1) := by decide +kernel
theorem dX5_flyOff_9 : decode cX5_flyOff 9 = .ok (.iconst 5, 1) := by decide +kernel
theorem dX5_flyOff_10 : decode cX5_flyOff 10 = .ok (.iload_n 2, 1) := by decide +kernel
theorem dX5_flyOff_11 : decode cX5_flyOff 11 = .ok (.iadd, 1) := by decide +kernel
theorem dX5_flyOff_12 : decode cX5_flyOff 12 = .ok (.iconst 0, 1) := by decide +kernel
theorem dX5_flyOff_13 : decode cX5_flyOff 13 = .ok (.invokevirtual 75, 3) := by decide +kernel
theorem dX5_flyOff_16 : decode cX5_flyOff 16 = .ok (.iinc 2 1, 3) := by decide +kernel
theorem dX5_flyOff_19 : decode cX5_flyOff 19 = .ok (.goto (-17), 3) := by decide +kernel
theorem dX5_flyOff_22 : decode cX5_flyOff 22 = .ok (.return_, 1) := by decide +kernel
theorem dX5_passOne_0 : decode cX5_passOne 0 = .ok (.iconst 0, 1) := by decide +kernel
theorem dX5_passOne_1 : decode cX5_passOne 1 = .ok (.istore_n 1, 1) := by decide +kernel
theorem dX5_passOne_2 : decode cX5_passOne 2 = .ok (.iconst 0, 1) := by decide +kernel
theorem dX5_passOne_3 : decode cX5_passOne 3 = .ok (.istore_n 2, 1) := by decide +kernel
theorem dX5_passOne_4 : decode cX5_passOne 4 = .ok (.iload_n 2, 1) := by decide +kernel
theorem dX5_passOne_5 : decode cX5_passOne 5 = .ok (.aload_n 0, 1) := by decide +kernel
theorem dX5_passOne_6 : decode cX5_passOne 6 = .ok (.getfield 7, 3) := by decide +kernel
theorem dX5_passOne_9 : decode cX5_passOne 9 = .ok (.bipush 10, 2) := by decide +kernel
theorem dX5_passOne_11 : decode cX5_passOne 11 = .ok (.iaload, 1) := by decide +kernel
theorem dX5_passOne_12 : decode cX5_passOne 12 = .ok (.if_icmp .ge 17, 3) := by decide +kernel
theorem dX5_passOne_15 : decode cX5_passOne 15 = .ok (.iload_n 1, 1) := by decide +kernel
theorem dX5_passOne_16 : decode cX5_passOne 16 = .ok (.aload_n 0, 1) := by decide +kernel
theorem dX5_passOne_17 : decode cX5_passOne 17 = .ok (.iload_n 2, 1) := by decide +kernel
theorem dX5_passOne_18 : decode cX5_passOne 18 = .ok (.invokevirtual 86, 3) := by decide +kernel
theorem dX5_passOne_21 : decode cX5_passOne 21 = .ok (.iadd, 1) := by decide +kernel
theorem dX5_passOne_22 : decode cX5_passOne 22 = .ok (.istore_n 1, 1) := by decide +kernel
theorem dX5_passOne_23 : decode cX5_passOne 23 = .ok (.iinc 2 1, 3) := by decide +kernel
theorem dX5_passOne_26 : decode cX5_passOne 26 = .ok (.goto (-22), 3) := by decide +kernel
theorem dX5_passOne_29 : decode cX5_passOne 29 = .ok (.iconst 0, 1) := by decide +kernel
theorem dX5_passOne_30 : decode cX5_passOne 30 = .ok (.istore_n 2, 1) := by decide +kernel
theorem dX5_passOne_31 : decode cX5_passOne 31 = .ok (.iload_n 2, 1) := by decide +kernel
theorem dX5_passOne_32 : decode cX5_passOne 32 = .ok (.aload_n 0, 1) := by decide +kernel
theorem dX5_passOne_33 : decode cX5_passOne 33 = .ok (.getfield 7, 3) := by decide +kernel
theorem dX5_passOne_36 : decode cX5_passOne 36 = .ok (.bipush 10, 2) := by decide +kernel
theorem dX5_passOne_38 : decode cX5_passOne 38 = .ok (.iaload, 1) := by decide +kernel
theorem dX5_passOne_39 : decode cX5_passOne 39 = .ok (.if_icmp .ge 14, 3) := by decide +kernel
theorem dX5_passOne_42 : decode cX5_passOne 42 = .ok (.aload_n 0, 1) := by decide +kernel
theorem dX5_passOne_43 : decode cX5_passOne 43 = .ok (.iload_n 2, 1) := by decide +kernel
theorem dX5_passOne_44 : decode cX5_passOne 44 = .ok (.invokevirtual 89, 3) := by decide +kernel
theorem dX5_passOne_47 : decode cX5_passOne 47 = .ok (.iinc 2 1, 3) := by decide +kernel
theorem dX5_passOne_50 : decode cX5_passOne 50 = .ok (.goto (-19), 3) := by decide +kernel
theorem dX5_passOne_53 : decode cX5_passOne 53 = .ok (.aload_n 0, 1) := by decide +kernel
theorem dX5_passOne_54 : decode cX5_passOne 54 = .ok (.getfield 7, 3) := by decide +kernel
theorem dX5_passOne_57 : decode cX5_passOne 57 = .ok (.iconst 2, 1) := by decide +kernel
theorem dX5_passOne_58 : decode cX5_passOne 58 = .ok (.dup2, 1) := by decide +kernel
theorem dX5_passOne_59 : decode cX5_passOne 59 = .ok (.iaload, 1) := by decide +kernel
theorem dX5_passOne_60 : decode cX5_passOne 60 = .ok (.iconst 1, 1) := by decide +kernel
theorem dX5_passOne_61 : decode cX5_passOne 61 = .ok (.iadd, 1) := by decide +kernel
theorem dX5_passOne_62 : decode cX5_passOne 62 = .ok (.iastore, 1) := by decide +kernel
theorem dX5_passOne_63 : decode cX5_passOne 63 = .ok (.aload_n 0, 1) := by decide +kernel
theorem dX5_passOne_64 : decode cX5_passOne 64 = .ok (.getfield 7, 3) := by decide +kernel
theorem dX5_passOne_67 : decode cX5_passOne 67 = .ok (.bipush 7, 2) := by decide +kernel
theorem dX5_passOne_69 : decode cX5_passOne 69 = .ok (.dup2, 1) := by decide +kernel
theorem dX5_passOne_70 : decode cX5_passOne 70 = .ok (.iaload, 1) := by decide +kernel
theorem dX5_passOne_71 : decode cX5_passOne 71 = .ok (.iload_n 1, 1) := by decide +kernel
theorem dX5_passOne_72 : decode cX5_passOne 72 = .ok (.iadd, 1) := by decide +kernel
theorem dX5_passOne_73 : decode cX5_passOne 73 = .ok (.iastore, 1) := by decide +kernel
theorem dX5_passOne_74 : decode cX5_passOne 74 = .ok (.aload_n 0, 1) := by decide +kernel
theorem dX5_passOne_75 : decode cX5_passOne 75 = .ok (.getfield 7, 3) := by decide +kernel
theorem dX5_passOne_78 : decode cX5_passOne 78 = .ok (.iconst 0, 1) := by decide +kernel
theorem dX5_passOne_79 : decode cX5_passOne 79 = .ok (.iaload, 1) := by decide +kernel
theorem dX5_passOne_80 : decode cX5_passOne 80 = .ok (.ifCond .le 35, 3) := by decide +kernel
theorem dX5_passOne_83 : decode cX5_passOne 83 = .ok (.aload_n 0, 1) := by decide +kernel
theorem dX5_passOne_84 : decode cX5_passOne 84 = .ok (.getfield 7, 3) := by decide +kernel
theorem dX5_passOne_87 : decode cX5_passOne 87 = .ok (.iconst 2, 1) := by decide +kernel
theorem dX5_passOne_88 : decode cX5_passOne 88 = .ok (.iaload, 1) := by decide +kernel
theorem dX5_passOne_89 : decode cX5_passOne 89 = .ok (.aload_n 0, 1) := by decide +kernel
theorem dX5_passOne_90 : decode cX5_passOne 90 = .ok (.getfield 7, 3) := by decide +kernel
theorem dX5_passOne_93 : decode cX5_passOne 93 = .ok (.iconst 0, 1) := by decide +kernel
theorem dX5_passOne_94 : decode cX5_passOne 94 = .ok (.iaload, 1) := by decide +kernel
theorem dX5_passOne_95 : decode cX5_passOne 95 = .ok (.irem, 1) := by decide +kernel
theorem dX5_passOne_96 : decode cX5_passOne 96 = .ok (.ifCond .ne 19, 3) := by decide +kernel
theorem dX5_passOne_99 : decode cX5_passOne 99 = .ok (.aload_n 0, 1) := by decide +kernel
theorem dX5_passOne_100 : decode cX5_passOne 100 = .ok (.getfield 7, 3) := by decide +kernel
theorem dX5_passOne_103 : decode cX5_passOne 103 = .ok (.iconst 3, 1) := by decide +kernel
theorem dX5_passOne_104 : decode cX5_passOne 104 = .ok (.aload_n 0, 1) := by decide +kernel
theorem dX5_passOne_105 : decode cX5_passOne 105 = .ok (.getfield 7, 3) := by decide +kernel
theorem dX5_passOne_108 : decode cX5_passOne 108 = .ok (.iconst 3, 1) := by decide +kernel
theorem dX5_passOne_109 : decode cX5_passOne 109 = .ok (.iaload, 1) := by decide +kernel
theorem dX5_passOne_110 : decode cX5_passOne 110 = .ok (.iconst 1, 1) := by decide +kernel
theorem dX5_passOne_111 : decode cX5_passOne 111 = .ok (.iadd, 1) := by decide +kernel
theorem dX5_passOne_112 : decode cX5_passOne 112 = .ok (.iconst 4, 1) := by decide +kernel
theorem dX5_passOne_113 : decode cX5_passOne 113 = .ok (.irem, 1) := by decide +kernel
theorem dX5_passOne_114 : decode cX5_passOne 114 = .ok (.iastore, 1) := by decide +kernel
theorem dX5_passOne_115 : decode cX5_passOne 115 = .ok (.iload_n 1, 1) := by decide +kernel
theorem dX5_passOne_116 : decode cX5_passOne 116 = .ok (.ireturn, 1) := by decide +kernel
theorem dX5_passMany_0 : decode cX5_passMany 0 = .ok (.iconst 0, 1) := by decide +kernel
theorem dX5_passMany_1 : decode cX5_passMany 1 = .ok (.istore_n 2, 1) := by decide +kernel
theorem dX5_passMany_2 : decode cX5_passMany 2 = .ok (.iconst 0, 1) := by decide +kernel
theorem dX5_passMany_3 : decode cX5_passMany 3 = .ok (.istore_n 3, 1) := by decide +kernel
theorem dX5_passMany_4 : decode cX5_passMany 4 = .ok (.iload_n 3, 1) := by decide +kernel
theorem dX5_passMany_5 : decode cX5_passMany 5 = .ok (.iload_n 1, 1) := by decide +kernel
theorem dX5_passMany_6 : decode cX5_passMany 6 = .ok (.if_icmp .ge 16, 3) := by decide +kernel
theorem dX5_passMany_9 : decode cX5_passMany 9 = .ok (.iload_n 2, 1) := by decide +kernel
theorem dX5_passMany_10 : decode cX5_passMany 10 = .ok (.aload_n 0, 1) := by decide +kernel
theorem dX5_passMany_11 : decode cX5_passMany 11 = .ok (.invokevirtual 92, 3) := by decide +kernel
theorem dX5_passMany_14 : decode cX5_passMany 14 = .ok (.iadd, 1) := by decide +kernel
theorem dX5_passMany_15 : decode cX5_passMany 15 = .ok (.istore_n 2, 1) := by decide +kernel
theorem dX5_passMany_16 : decode cX5_passMany 16 = .ok (.iinc 3 1, 3) := by decide +kernel
theorem dX5_passMany_19 : decode cX5_passMany 19 = .ok (.goto (-15), 3) := by decide +kernel
theorem dX5_passMany_22 : decode cX5_passMany 22 = .ok (.iload_n 2, 1) := by decide +kernel
theorem dX5_passMany_23 : decode cX5_passMany 23 = .ok (.ireturn, 1) := by decide +kernel
theorem dX5_doCrow_0 : decode cX5_doCrow 0 = .ok (.aload_n 0, 1) := by decide +kernel
theorem dX5_doCrow_1 : decode cX5_doCrow 1 = .ok (.iload_n 1, 1) := by decide +kernel
theorem dX5_doCrow_2 : decode cX5_doCrow 2 = .ok (.invokevirtual 95, 3) := by decide +kernel
theorem dX5_doCrow_5 : decode cX5_doCrow 5 = .ok (.ifCond .eq 10, 3) := by decide +kernel
theorem dX5_doCrow_8 : decode cX5_doCrow 8 = .ok (.iload_n 2, 1) := by decide +kernel
theorem dX5_doCrow_9 : decode cX5_doCrow 9 = .ok (.invokestatic 98, 3) := by decide +kernel
theorem dX5_doCrow_12 : decode cX5_doCrow 12 = .ok (.ifCond .ne 5, 3) := by decide +kernel
theorem dX5_doCrow_15 : decode cX5_doCrow 15 = .ok (.iconst (-1), 1) := by decide +kernel
theorem dX5_doCrow_16 : decode cX5_doCrow 16 = .ok (.ireturn, 1) := by decide +kernel
theorem dX5_doCrow_17 : decode cX5_doCrow 17 = .ok (.aload_n 0, 1) := by decide +kernel
theorem dX5_doCrow_18 : decode cX5_doCrow 18 = .ok (.iload_n 1, 1) := by decide +kernel
theorem dX5_doCrow_19 : decode cX5_doCrow 19 = .ok (.iconst 4, 1) := by decide +kernel
theorem dX5_doCrow_20 : decode cX5_doCrow 20 = .ok (.invokevirtual 29, 3) := by decide +kernel
theorem dX5_doCrow_23 : decode cX5_doCrow 23 = .ok (.ifCond .ne 6, 3) := by decide +kernel
theorem dX5_doCrow_26 : decode cX5_doCrow 26 = .ok (.bipush (-4), 2) := by decide +kernel
theorem dX5_doCrow_28 : decode cX5_doCrow 28 = .ok (.ireturn, 1) := by decide +kernel
theorem dX5_doCrow_29 : decode cX5_doCrow 29 = .ok (.aload_n 0, 1) := by decide +kernel
theorem dX5_doCrow_30 : decode cX5_doCrow 30 = .ok (.iload_n 1, 1) := by decide +kernel
theorem dX5_doCrow_31 : decode cX5_doCrow 31 = .ok (.invokevirtual 79, 3) := by decide +kernel
theorem dX5_doCrow_34 : decode cX5_doCrow 34 = .ok (.bipush 9, 2) := by decide +kernel
theorem dX5_doCrow_36 : decode cX5_doCrow 36 = .ok (.if_icmp .ne 6, 3) := by decide +kernel
theorem dX5_doCrow_39 : decode cX5_doCrow 39 = .ok (.bipush (-3), 2) := by decide +kernel
theorem dX5_doCrow_41 : decode cX5_doCrow 41 = .ok (.ireturn, 1) := by decide +kernel
theorem dX5_doCrow_42 : decode cX5_doCrow 42 = .ok (.aload_n 0, 1) := by decide +kernel
theorem dX5_doCrow_43 : decode cX5_doCrow 43 = .ok (.iload_n 1, 1) := by decide +kernel
theorem dX5_doCrow_44 : decode cX5_doCrow 44 = .ok (.iconst 5, 1) := by decide +kernel
theorem dX5_doCrow_45 : decode cX5_doCrow 45 = .ok (.iload_n 2, 1) := by decide +kernel
theorem dX5_doCrow_46 : decode cX5_doCrow 46 = .ok (.iadd, 1) := by decide +kernel
theorem dX5_doCrow_47 : decode cX5_doCrow 47 = .ok (.aload_n 0, 1) := by decide +kernel
theorem dX5_doCrow_48 : decode cX5_doCrow 48 = .ok (.iload_n 1, 1) := by decide +kernel
theorem dX5_doCrow_49 : decode cX5_doCrow 49 = .ok (.iconst 5, 1) := by decide +kernel
theorem dX5_doCrow_50 : decode cX5_doCrow 50 = .ok (.iload_n 2, 1) := by decide +kernel
theorem dX5_doCrow_51 : decode cX5_doCrow 51 = .ok (.iadd, 1) := by decide +kernel
theorem dX5_doCrow_52 : decode cX5_doCrow 52 = .ok (.invokevirtual 29, 3) := by decide +kernel
theorem dX5_doCrow_55 : decode cX5_doCrow 55 = .ok (.iconst 1, 1) := by decide +kernel
theorem dX5_doCrow_56 : decode cX5_doCrow 56 = .ok (.iadd, 1) := by decide +kernel
theorem dX5_doCrow_57 : decode cX5_doCrow 57 = .ok (.invokevirtual 75, 3) := by decide +kernel
theorem dX5_doCrow_60 : decode cX5_doCrow 60 = .ok (.aload_n 0, 1) := by decide +kernel
theorem dX5_doCrow_61 : decode cX5_doCrow 61 = .ok (.iload_n 1, 1) := by decide +kernel
theorem dX5_doCrow_62 : decode cX5_doCrow 62 = .ok (.invokevirtual 79, 3) := by decide +kernel
theorem dX5_doCrow_65 : decode cX5_doCrow 65 = .ok (.ireturn, 1) := by decide +kernel
theorem dX5_doFill_0 : decode cX5_doFill 0 = .ok (.aload_n 0, 1) := by decide +kernel
theorem dX5_doFill_1 : decode cX5_doFill 1 = .ok (.iload_n 1, 1) := by decide +kernel
theorem dX5_doFill_2 : decode cX5_doFill 2 = .ok (.invokevirtual 95, 3) := by decide +kernel
theorem dX5_doFill_5 : decode cX5_doFill 5 = .ok (.ifCond .ne 5, 3) := by decide +kernel
theorem dX5_doFill_8 : decode cX5_doFill 8 = .ok (.iconst (-1), 1) := by decide +kernel
theorem dX5_doFill_9 : decode cX5_doFill 9 = .ok (.ireturn, 1) := by decide +kernel
theorem dX5_doFill_10 : decode cX5_doFill 10 = .ok (.iload_n 2, 1) := by decide +kernel
theorem dX5_doFill_11 : decode cX5_doFill 11 = .ok (.iconst 1, 1) := by decide +kernel
theorem dX5_doFill_12 : decode cX5_doFill 12 = .ok (.bipush 64, 2) := by decide +kernel
theorem dX5_doFill_14 : decode cX5_doFill 14 = .ok (.invokestatic 25, 3) := by decide +kernel
theorem dX5_doFill_17 : decode cX5_doFill 17 = .ok (.ifCond .ne 6, 3) := by decide +kernel
theorem dX5_doFill_20 : decode cX5_doFill 20 = .ok (.bipush (-2), 2) := by decide +kernel
theorem dX5_doFill_22 : decode cX5_doFill 22 = .ok (.ireturn, 1) := by decide +kernel
theorem dX5_doFill_23 : decode cX5_doFill 23 = .ok (.bipush 64, 2) := by decide +kernel
theorem dX5_doFill_25 : decode cX5_doFill 25 = .ok (.aload_n 0, 1) := by decide +kernel
theorem dX5_doFill_26 : decode cX5_doFill 26 = .ok (.iload_n 1, 1) := by decide +kernel
theorem dX5_doFill_27 : decode cX5_doFill 27 = .ok (.iconst 4, 1) := by decide +kernel
theorem dX5_doFill_28 : decode cX5_doFill 28 = .ok (.invokevirtual 29, 3) := by decide +kernel
theorem dX5_doFill_31 : decode cX5_doFill 31 = .ok (.isub, 1) := by decide +kernel
theorem dX5_doFill_32 : decode cX5_doFill 32 = .ok (.istore_n 3, 1) := by decide +kernel
theorem dX5_doFill_33 : decode cX5_doFill 33 = .ok (.iload_n 2, 1) := by decide +kernel
theorem dX5_doFill_34 : decode cX5_doFill 34 = .ok (.iload_n 3, 1) := by decide +kernel
theorem dX5_doFill_35 : decode cX5_doFill 35 = .ok (.if_icmp .ge 7, 3) := by decide +kernel
theorem dX5_doFill_38 : decode cX5_doFill 38 = .ok (.iload_n 2, 1) := by decide +kernel
theorem dX5_doFill_39 : decode cX5_doFill 39 = .ok (.goto 4, 3) := by decide +kernel
theorem dX5_doFill_42 : decode cX5_doFill 42 = .ok (.iload_n 3, 1) := by decide +kernel
theorem dX5_doFill_43 : decode cX5_doFill 43 = .ok (.istore 4, 2) := by decide +kernel
theorem dX5_doFill_45 : decode cX5_doFill 45 = .ok (.iload 4, 2) := by decide +kernel
theorem dX5_doFill_47 : decode cX5_doFill 47 = .ok (.aload_n 0, 1) := by decide +kernel
theorem dX5_doFill_48 : decode cX5_doFill 48 = .ok (.getfield 7, 3) := by decide +kernel
theorem dX5_doFill_51 : decode cX5_doFill 51 = .ok (.iconst 5, 1) := by decide +kernel
theorem dX5_doFill_52 : decode cX5_doFill 52 = .ok (.iaload, 1) := by decide +kernel
theorem dX5_doFill_53 : decode cX5_doFill 53 = .ok (.if_icmp .ge 8, 3) := by decide +kernel
theorem dX5_doFill_56 : decode cX5_doFill 56 = .ok (.iload 4, 2) := by decide +kernel
theorem dX5_doFill_58 : decode cX5_doFill 58 = .ok (.goto 9, 3) := by decide +kernel
theorem dX5_doFill_61 : decode cX5_doFill 61 = .ok (.aload_n 0, 1) := by decide +kernel
theorem dX5_doFill_62 : decode cX5_doFill 62 = .ok (.getfield 7, 3) := by decide +kernel
theorem dX5_doFill_65 : decode cX5_doFill 65 = .ok (.iconst 5, 1) := by decide +kernel
theorem dX5_doFill_66 : decode cX5_doFill 66 = .ok (.iaload, 1) := by decide +kernel
theorem dX5_doFill_67 : decode cX5_doFill 67 = .ok (.istore 4, 2) := by decide +kernel
theorem dX5_doFill_69 : decode cX5_doFill 69 = .ok (.aload_n 0, 1) := by decide +kernel
theorem dX5_doFill_70 : decode cX5_doFill 70 = .ok (.iload_n 1, 1) := by decide +kernel
theorem dX5_doFill_71 : decode cX5_doFill 71 = .ok (.iconst 4, 1) := by decide +kernel
theorem dX5_doFill_72 : decode cX5_doFill 72 = .ok (.aload_n 0, 1) := by decide +kernel
theorem dX5_doFill_73 : decode cX5_doFill 73 = .ok (.iload_n 1, 1) := by decide +kernel
theorem dX5_doFill_74 : decode cX5_doFill 74 = .ok (.iconst 4, 1) := by decide +kernel
theorem dX5_doFill_75 : decode cX5_doFill 75 = .ok (.invokevirtual 29, 3) := by decide +kernel
theorem dX5_doFill_78 : decode cX5_doFill 78 = .ok (.iload 4, 2) := by decide +kernel
theorem dX5_doFill_80 : decode cX5_doFill 80 = .ok (.iadd, 1) := by decide +kernel
theorem dX5_doFill_81 : decode cX5_doFill 81 = .ok (.invokevirtual 75, 3) := by decide +kernel
theorem dX5_doFill_84 : decode cX5_doFill 84 = .ok (.aload_n 0, 1) := by decide +kernel
theorem dX5_doFill_85 : decode cX5_doFill 85 = .ok (.getfield 7, 3) := by decide +kernel
theorem dX5_doFill_88 : decode cX5_doFill 88 = .ok (.iconst 5, 1) := by decide +kernel
theorem dX5_doFill_89 : decode cX5_doFill 89 = .ok (.dup2, 1) := by decide +kernel
theorem dX5_doFill_90 : decode cX5_doFill 90 = .ok (.iaload, 1) := by decide +kernel
theorem dX5_doFill_91 : decode cX5_doFill 91 = .ok (.iload 4, 2) := by decide +kernel
theorem dX5_doFill_93 : decode cX5_doFill 93 = .ok (.isub, 1) := by decide +kernel
theorem dX5_doFill_94 : decode cX5_doFill 94 = .ok (.iastore, 1) := by decide +kernel
theorem dX5_doFill_95 : decode cX5_doFill 95 = .ok (.iload 4, 2) := by decide +kernel
theorem dX5_doFill_97 : decode cX5_doFill 97 = .ok (.ifCond .ne 8, 3) := by decide +kernel
theorem dX5_doFill_100 : decode cX5_doFill 100 = .ok (.bipush (-5), 2) := by decide +kernel
theorem dX5_doFill_102 : decode cX5_doFill 102 = .ok (.goto 5, 3) := by decide +kernel
theorem dX5_doFill_105 : decode cX5_doFill 105 = .ok (.iload 4, 2) := by decide +kernel
theorem dX5_doFill_107 : decode cX5_doFill 107 = .ok (.ireturn, 1) := by decide +kernel
theorem dX5_doWind_0 : decode cX5_doWind 0 = .ok (.iload_n 1, 1) := by decide +kernel
theorem dX5_doWind_1 : decode cX5_doWind 1 = .ok (.invokestatic 98, 3) := by decide +kernel
theorem dX5_doWind_4 : decode cX5_doWind 4 = .ok (.ifCond .ne 5, 3) := by decide +kernel
theorem dX5_doWind_7 : decode cX5_doWind 7 = .ok (.iconst (-1), 1) := by decide +kernel
theorem dX5_doWind_8 : decode cX5_doWind 8 = .ok (.ireturn, 1) := by decide +kernel
theorem dX5_doWind_9 : decode cX5_doWind 9 = .ok (.iload_n 2, 1) := by decide +kernel
theorem dX5_doWind_10 : decode cX5_doWind 10 = .ok (.iconst 0, 1) := by decide +kernel
theorem dX5_doWind_11 : decode cX5_doWind 11 = .ok (.bipush 9, 2) := by decide +kernel
theorem dX5_doWind_13 : decode cX5_doWind 13 = .ok (.invokestatic 25, 3) := by decide +kernel
theorem dX5_doWind_16 : decode cX5_doWind 16 = .ok (.ifCond .ne 6, 3) := by decide +kernel
theorem dX5_doWind_19 : decode cX5_doWind 19 = .ok (.bipush (-2), 2) := by decide +kernel
theorem dX5_doWind_21 : decode cX5_doWind 21 = .ok (.ireturn, 1) := by decide +kernel
theorem dX5_doWind_22 : decode cX5_doWind 22 = .ok (.bipush 10, 2) := by decide +kernel
theorem dX5_doWind_24 : decode cX5_doWind 24 = .ok (.aload_n 0, 1) := by decide +kernel
theorem dX5_doWind_25 : decode cX5_doWind 25 = .ok (.getfield 7, 3) := by decide +kernel
theorem dX5_doWind_28 : decode cX5_doWind 28 = .ok (.iconst 3, 1) := by decide +kernel
theorem dX5_doWind_29 : decode cX5_doWind 29 = .ok (.iaload, 1) := by decide +kernel
theorem dX5_doWind_30 : decode cX5_doWind 30 = .ok (.imul, 1) := by decide +kernel
theorem dX5_doWind_31 : decode cX5_doWind 31 = .ok (.aload_n 0, 1) := by decide +kernel
theorem dX5_doWind_32 : decode cX5_doWind 32 = .ok (.getfield 7, 3) := by decide +kernel
theorem dX5_doWind_35 : decode cX5_doWind 35 = .ok (.iconst 4, 1) := by decide +kernel
theorem dX5_doWind_36 : decode cX5_doWind 36 = .ok (.iaload, 1) := by decide +kernel
theorem dX5_doWind_37 : decode cX5_doWind 37 = .ok (.iadd, 1) := by decide +kernel
theorem dX5_doWind_38 : decode cX5_doWind 38 = .ok (.istore_n 3, 1) := by decide +kernel
theorem dX5_doWind_39 : decode cX5_doWind 39 = .ok (.aload_n 0, 1) := by decide +kernel
theorem dX5_doWind_40 : decode cX5_doWind 40 = .ok (.getfield 7, 3) := by decide +kernel
theorem dX5_doWind_43 : decode cX5_doWind 43 = .ok (.iconst 3, 1) := by decide +kernel
theorem dX5_doWind_44 : decode cX5_doWind 44 = .ok (.iload_n 1, 1) := by decide +kernel
theorem dX5_doWind_45 : decode cX5_doWind 45 = .ok (.iastore, 1) := by decide +kernel
theorem dX5_doWind_46 : decode cX5_doWind 46 = .ok (.aload_n 0, 1) := by decide +kernel
theorem dX5_doWind_47 : decode cX5_doWind 47 = .ok (.getfield 7, 3) := by decide +kernel
theorem dX5_doWind_50 : decode cX5_doWind 50 = .ok (.iconst 4, 1) := by decide +kernel
theorem dX5_doWind_51 : decode cX5_doWind 51 = .ok (.iload_n 2, 1) := by decide +kernel
theorem dX5_doWind_52 : decode cX5_doWind 52 = .ok (.iastore, 1) := by decide +kernel
theorem dX5_doWind_53 : decode cX5_doWind 53 = .ok (.iload_n 3, 1) := by decide +kernel
theorem dX5_doWind_54 : decode cX5_doWind 54 = .ok (.bipush 10, 2) := by decide +kernel
theorem dX5_doWind_56 : decode cX5_doWind 56 = .ok (.iload_n 1, 1) := by decide +kernel
theorem dX5_doWind_57 : decode cX5_doWind 57 = .ok (.imul, 1) := by decide +kernel
theorem dX5_doWind_58 : decode cX5_doWind 58 = .ok (.iload_n 2, 1) := by decide +kernel
theorem dX5_doWind_59 : decode cX5_doWind 59 = .ok (.iadd, 1) := by decide +kernel
theorem dX5_doWind_60 : decode cX5_doWind 60 = .ok (.if_icmp .ne 8, 3) := by decide +kernel
theorem dX5_doWind_63 : decode cX5_doWind 63 = .ok (.bipush (-5), 2) := by decide +kernel
theorem dX5_doWind_65 : decode cX5_doWind 65 = .ok (.goto 4, 3) := by decide +kernel
theorem dX5_doWind_68 : decode cX5_doWind 68 = .ok (.iload_n 3, 1) := by decide +kernel
theorem dX5_doWind_69 : decode cX5_doWind 69 = .ok (.ireturn, 1) := by decide +kernel
theorem dX5_doVote_0 : decode cX5_doVote 0 = .ok (.aload_n 0, 1) := by decide +kernel
theorem dX5_doVote_1 : decode cX5_doVote 1 = .ok (.aload_n 0, 1) := by decide +kernel
theorem dX5_doVote_2 : decode cX5_doVote 2 = .ok (.getfield 7, 3) := by decide +kernel
theorem dX5_doVote_5 : decode cX5_doVote 5 = .ok (.iconst 1, 1) := by decide +kernel
theorem dX5_doVote_6 : decode cX5_doVote 6 = .ok (.iaload, 1) := by decide +kernel
theorem dX5_doVote_7 : decode cX5_doVote 7 = .ok (.invokevirtual 101, 3) := by decide +kernel
theorem dX5_doVote_10 : decode cX5_doVote 10 = .ok (.istore_n 1, 1) := by decide +kernel
theorem dX5_doVote_11 : decode cX5_doVote 11 = .ok (.iload_n 1, 1) := by decide +kernel
theorem dX5_doVote_12 : decode cX5_doVote 12 = .ok (.bipush (-5), 2) := by decide +kernel
theorem dX5_doVote_14 : decode cX5_doVote 14 = .ok (.if_icmp .ne 6, 3) := by decide +kernel
theorem dX5_doVote_17 : decode cX5_doVote 17 = .ok (.bipush (-4), 2) := by decide +kernel
theorem dX5_doVote_19 : decode cX5_doVote 19 = .ok (.ireturn, 1) := by decide +kernel
theorem dX5_doVote_20 : decode cX5_doVote 20 = .ok (.aload_n 0, 1) := by decide +kernel
theorem dX5_doVote_21 : decode cX5_doVote 21 = .ok (.getfield 7, 3) := by decide +kernel
theorem dX5_doVote_24 : decode cX5_doVote 24 = .ok (.bipush 8, 2) := by decide +kernel
theorem dX5_doVote_26 : decode cX5_doVote 26 = .ok (.dup2, 1) := by decide +kernel
theorem dX5_doVote_27 : decode cX5_doVote 27 = .ok (.iaload, 1) := by decide +kernel
theorem dX5_doVote_28 : decode cX5_doVote 28 = .ok (.iconst 1, 1) := by decide +kernel
theorem dX5_doVote_29 : decode cX5_doVote 29 = .ok (.iadd, 1) := by decide +kernel
theorem dX5_doVote_30 : decode cX5_doVote 30 = .ok (.iastore, 1) := by decide +kernel
theorem dX5_doVote_31 : decode cX5_doVote 31 = .ok (.aload_n 0, 1) := by decide +kernel
theorem dX5_doVote_32 : decode cX5_doVote 32 = .ok (.getfield 7, 3) := by decide +kernel
theorem dX5_doVote_35 : decode cX5_doVote 35 = .ok (.bipush 9, 2) := by decide +kernel
theorem dX5_doVote_37 : decode cX5_doVote 37 = .ok (.iload_n 1, 1) := by decide +kernel
theorem dX5_doVote_38 : decode cX5_doVote 38 = .ok (.iastore, 1) := by decide +kernel
theorem dX5_doVote_39 : decode cX5_doVote 39 = .ok (.iload_n 1, 1) := by decide +kernel
theorem dX5_doVote_40 : decode cX5_doVote 40 = .ok (.ireturn, 1) := by decide +kernel
theorem dX5_doPass_0 : decode cX5_doPass 0 = .ok (.iload_n 1, 1) := by decide +kernel
theorem dX5_doPass_1 : decode cX5_doPass 1 = .ok (.iconst 1, 1) := by decide +kernel
theorem dX5_doPass_2 : decode cX5_doPass 2 = .ok (.bipush 99, 2) := by decide +kernel
theorem dX5_doPass_4 : decode cX5_doPass 4 = .ok (.invokestatic 25, 3) := by decide +kernel
theorem dX5_doPass_7 : decode cX5_doPass 7 = .ok (.ifCond .ne 6, 3) := by decide +kernel
theorem dX5_doPass_10 : decode cX5_doPass 10 = .ok (.bipush (-2), 2) := by decide +kernel
theorem dX5_doPass_12 : decode cX5_doPass 12 = .ok (.ireturn, 1) := by decide +kernel
theorem dX5_doPass_13 : decode cX5_doPass 13 = .ok (.aload_n 0, 1) := by decide +kernel
theorem dX5_doPass_14 : decode cX5_doPass 14 = .ok (.getfield 7, 3) := by decide +kernel
theorem dX5_doPass_17 : decode cX5_doPass 17 = .ok (.iconst 2, 1) := by decide +kernel
theorem dX5_doPass_18 : decode cX5_doPass 18 = .ok (.iaload, 1) := by decide +kernel
theorem dX5_doPass_19 : decode cX5_doPass 19 = .ok (.iload_n 1, 1) := by decide +kernel
theorem dX5_doPass_20 : decode cX5_doPass 20 = .ok (.iadd, 1) := by decide +kernel
theorem dX5_doPass_21 : decode cX5_doPass 21 = .ok (.ldc 104, 2) := by decide +kernel
theorem dX5_doPass_23 : decode cX5_doPass 23 = .ok (.if_icmp .le 8, 3) := by decide +kernel
theorem dX5_doPass_26 : decode cX5_doPass 26 = .ok (.bipush (-3), 2) := by decide +kernel
theorem dX5_doPass_28 : decode cX5_doPass 28 = .ok (.goto 8, 3) := by decide +kernel
theorem dX5_doPass_31 : decode cX5_doPass 31 = .ok (.aload_n 0, 1) := by decide +kernel
theorem dX5_doPass_32 : decode cX5_doPass 32 = .ok (.iload_n 1, 1) := by decide +kernel
theorem dX5_doPass_33 : decode cX5_doPass 33 = .ok (.invokevirtual 105, 3) := by decide +kernel
theorem dX5_doPass_36 : decode cX5_doPass 36 = .ok (.ireturn, 1) := by decide +kernel
theorem dX5_setUp_0 : decode cX5_setUp 0 = .ok (.iload_n 1, 1) := by decide +kernel
theorem dX5_setUp_1 : decode cX5_setUp 1 = .ok (.invokestatic 108, 3) := by decide +kernel
theorem dX5_setUp_4 : decode cX5_setUp 4 = .ok (.ifCond .eq 11, 3) := by decide +kernel
theorem dX5_setUp_7 : decode cX5_setUp 7 = .ok (.iload 4, 2) := by decide +kernel
theorem dX5_setUp_9 : decode cX5_setUp 9 = .ok (.invokestatic 98, 3) := by decide +kernel
theorem dX5_setUp_12 : decode cX5_setUp 12 = .ok (.ifCond .ne 5, 3) := by decide +kernel
theorem dX5_setUp_15 : decode cX5_setUp 15 = .ok (.iconst (-1), 1) := by decide +kernel
theorem dX5_setUp_16 : decode cX5_setUp 16 = .ok (.ireturn, 1) := by decide +kernel
theorem dX5_setUp_17 : decode cX5_setUp 17 = .ok (.iload_n 2, 1) := by decide +kernel
theorem dX5_setUp_18 : decode cX5_setUp 18 = .ok (.iconst 1, 1) := by decide +kernel
theorem dX5_setUp_19 : decode cX5_setUp 19 = .ok (.iconst 5, 1) := by decide +kernel
theorem dX5_setUp_20 : decode cX5_setUp 20 = .ok (.invokestatic 25, 3) := by decide +kernel
theorem dX5_setUp_23 : decode cX5_setUp 23 = .ok (.ifCond .eq 13, 3) := by decide +kernel
theorem dX5_setUp_26 : decode cX5_setUp 26 = .ok (.iload_n 3, 1) := by decide +kernel
theorem dX5_setUp_27 : decode cX5_setUp 27 = .ok (.iconst 1, 1) := by decide +kernel
theorem dX5_setUp_28 : decode cX5_setUp 28 = .ok (.bipush 9, 2) := by decide +kernel
theorem dX5_setUp_30 : decode cX5_setUp 30 = .ok (.invokestatic 25, 3) := by decide +kernel
theorem dX5_setUp_33 : decode cX5_setUp 33 = .ok (.ifCond .ne 6, 3) := by decide +kernel
theorem dX5_setUp_36 : decode cX5_setUp 36 = .ok (.bipush (-2), 2) := by decide +kernel
theorem dX5_setUp_38 : decode cX5_setUp 38 = .ok (.ireturn, 1) := by decide +kernel
theorem dX5_setUp_39 : decode cX5_setUp 39 = .ok (.aload_n 0, 1) := by decide +kernel
theorem dX5_setUp_40 : decode cX5_setUp 40 = .ok (.getfield 7, 3) := by decide +kernel
theorem dX5_setUp_43 : decode cX5_setUp 43 = .ok (.bipush 10, 2) := by decide +kernel
theorem dX5_setUp_45 : decode cX5_setUp 45 = .ok (.iaload, 1) := by decide +kernel
theorem dX5_setUp_46 : decode cX5_setUp 46 = .ok (.bipush 12, 2) := by decide +kernel
theorem dX5_setUp_48 : decode cX5_setUp 48 = .ok (.if_icmp .ne 6, 3) := by decide +kernel
theorem dX5_setUp_51 : decode cX5_setUp 51 = .ok (.bipush (-3), 2) := by decide +kernel
theorem dX5_setUp_53 : decode cX5_setUp 53 = .ok (.ireturn, 1) := by decide +kernel
theorem dX5_setUp_54 : decode cX5_setUp 54 = .ok (.aload_n 0, 1) := by decide +kernel
theorem dX5_setUp_55 : decode cX5_setUp 55 = .ok (.invokevirtual 48, 3) := by decide +kernel
theorem dX5_setUp_58 : decode cX5_setUp 58 = .ok (.aload_n 0, 1) := by decide +kernel
theorem dX5_setUp_59 : decode cX5_setUp 59 = .ok (.getfield 7, 3) := by decide +kernel
theorem dX5_setUp_62 : decode cX5_setUp 62 = .ok (.bipush 10, 2) := by decide +kernel
theorem dX5_setUp_64 : decode cX5_setUp 64 = .ok (.iaload, 1) := by decide +kernel
theorem dX5_setUp_65 : decode cX5_setUp 65 = .ok (.istore 5, 2) := by decide +kernel
theorem dX5_setUp_67 : decode cX5_setUp 67 = .ok (.aload_n 0, 1) := by decide +kernel
theorem dX5_setUp_68 : decode cX5_setUp 68 = .ok (.getfield 7, 3) := by decide +kernel
theorem dX5_setUp_71 : decode cX5_setUp 71 = .ok (.bipush 10, 2) := by decide +kernel
theorem dX5_setUp_73 : decode cX5_setUp 73 = .ok (.dup2, 1) := by decide +kernel
theorem dX5_setUp_74 : decode cX5_setUp 74 = .ok (.iaload, 1) := by decide +kernel
theorem dX5_setUp_75 : decode cX5_setUp 75 = .ok (.iconst 1, 1) := by decide +kernel
theorem dX5_setUp_76 : decode cX5_setUp 76 = .ok (.iadd, 1) := by decide +kernel
theorem dX5_setUp_77 : decode cX5_setUp 77 = .ok (.iastore, 1) := by decide +kernel
theorem dX5_setUp_78 : decode cX5_setUp 78 = .ok (.aload_n 0, 1) := by decide +kernel
theorem dX5_setUp_79 : decode cX5_setUp 79 = .ok (.iload 5, 2) := by decide +kernel
theorem dX5_setUp_81 : decode cX5_setUp 81 = .ok (.iconst 0, 1) := by decide +kernel
theorem dX5_setUp_82 : decode cX5_setUp 82 = .ok (.iload_n 1, 1) := by decide +kernel
theorem dX5_setUp_83 : decode cX5_setUp 83 = .ok (.invokevirtual 75, 3) := by decide +kernel
theorem dX5_setUp_86 : decode cX5_setUp 86 = .ok (.aload_n 0, 1) := by decide +kernel
theorem dX5_setUp_87 : decode cX5_setUp 87 = .ok (.iload 5, 2) := by decide +kernel
theorem dX5_setUp_89 : decode cX5_setUp 89 = .ok (.iconst 1, 1) := by decide +kernel
theorem dX5_setUp_90 : decode cX5_setUp 90 = .ok (.iload_n 2, 1) := by decide +kernel
theorem dX5_setUp_91 : decode cX5_setUp 91 = .ok (.invokevirtual 75, 3) := by decide +kernel
theorem dX5_setUp_94 : decode cX5_setUp 94 = .ok (.aload_n 0, 1) := by decide +kernel
theorem dX5_setUp_95 : decode cX5_setUp 95 = .ok (.iload 5, 2) := by decide +kernel
theorem dX5_setUp_97 : decode cX5_setUp 97 = .ok (.iconst 2, 1) := by decide +kernel
theorem dX5_setUp_98 : decode cX5_setUp 98 = .ok (.iload_n 3, 1) := by decide +kernel
theorem dX5_setUp_99 : decode cX5_setUp 99 = .ok (.invokevirtual 75, 3) := by decide +kernel
theorem dX5_setUp_102 : decode cX5_setUp 102 = .ok (.aload_n 0, 1) := by decide +kernel
theorem dX5_setUp_103 : decode cX5_setUp 103 = .ok (.iload 5, 2) := by decide +kernel
theorem dX5_setUp_105 : decode cX5_setUp 105 = .ok (.iconst 3, 1) := by decide +kernel
theorem dX5_setUp_106 : decode cX5_setUp 106 = .ok (.iload 4, 2) := by decide +kernel
theorem dX5_setUp_108 : decode cX5_setUp 108 = .ok (.invokevirtual 75, 3) := by decide +kernel
theorem dX5_setUp_111 : decode cX5_setUp 111 = .ok (.aload_n 0, 1) := by decide +kernel
theorem dX5_setUp_112 : decode cX5_setUp 112 = .ok (.iload 5, 2) := by decide +kernel
theorem dX5_setUp_114 : decode cX5_setUp 114 = .ok (.iconst 4, 1) := by decide +kernel
theorem dX5_setUp_115 : decode cX5_setUp 115 = .ok (.bipush 64, 2) := by decide +kernel
theorem dX5_setUp_117 : decode cX5_setUp 117 = .ok (.invokevirtual 75, 3) := by decide +kernel
theorem dX5_setUp_120 : decode cX5_setUp 120 = .ok (.aload_n 0, 1) := by decide +kernel
theorem dX5_setUp_121 : decode cX5_setUp 121 = .ok (.iload 5, 2) := by decide +kernel
theorem dX5_setUp_123 : decode cX5_setUp 123 = .ok (.invokevirtual 111, 3) := by decide +kernel
theorem dX5_setUp_126 : decode cX5_setUp 126 = .ok (.ireturn, 1) := by decide +kernel
theorem dX5_carry_0 : decode cX5_carry 0 = .ok (.aload_n 0, 1) := by decide +kernel
theorem dX5_carry_1 : decode cX5_carry 1 = .ok (.iload_n 1, 1) := by decide +kernel
theorem dX5_carry_2 : decode cX5_carry 2 = .ok (.invokevirtual 95, 3) := by decide +kernel
theorem dX5_carry_5 : decode cX5_carry 5 = .ok (.ifCond .eq 10, 3) := by decide +kernel
theorem dX5_carry_8 : decode cX5_carry 8 = .ok (.iload_n 2, 1) := by decide +kernel
theorem dX5_carry_9 : decode cX5_carry 9 = .ok (.invokestatic 108, 3) := by decide +kernel
theorem dX5_carry_12 : decode cX5_carry 12 = .ok (.ifCond .ne 5, 3) := by decide +kernel
theorem dX5_carry_15 : decode cX5_carry 15 = .ok (.iconst (-1), 1) := by decide +kernel
theorem dX5_carry_16 : decode cX5_carry 16 = .ok (.ireturn, 1) := by decide +kernel
theorem dX5_carry_17 : decode cX5_carry 17 = .ok (.aload_n 0, 1) := by decide +kernel
theorem dX5_carry_18 : decode cX5_carry 18 = .ok (.invokevirtual 48, 3) := by decide +kernel
theorem dX5_carry_21 : decode cX5_carry 21 = .ok (.aload_n 0, 1) := by decide +kernel
theorem dX5_carry_22 : decode cX5_carry 22 = .ok (.iload_n 1, 1) := by decide +kernel
theorem dX5_carry_23 : decode cX5_carry 23 = .ok (.iconst 0, 1) := by decide +kernel
theorem dX5_carry_24 : decode cX5_carry 24 = .ok (.invokevirtual 29, 3) := by decide +kernel
theorem dX5_carry_27 : decode cX5_carry 27 = .ok (.istore_n 3, 1) := by decide +kernel
theorem dX5_carry_28 : decode cX5_carry 28 = .ok (.aload_n 0, 1) := by decide +kernel
theorem dX5_carry_29 : decode cX5_carry 29 = .ok (.iload_n 1, 1) := by decide +kernel
theorem dX5_carry_30 : decode cX5_carry 30 = .ok (.iconst 0, 1) := by decide +kernel
theorem dX5_carry_31 : decode cX5_carry 31 = .ok (.iload_n 2, 1) := by decide +kernel
theorem dX5_carry_32 : decode cX5_carry 32 = .ok (.invokevirtual 75, 3) := by decide +kernel
theorem dX5_carry_35 : decode cX5_carry 35 = .ok (.aload_n 0, 1) := by decide +kernel
theorem dX5_carry_36 : decode cX5_carry 36 = .ok (.iload_n 3, 1) := by decide +kernel
theorem dX5_carry_37 : decode cX5_carry 37 = .ok (.iload_n 2, 1) := by decide +kernel
theorem dX5_carry_38 : decode cX5_carry 38 = .ok (.if_icmp .ne 8, 3) := by decide +kernel
theorem dX5_carry_41 : decode cX5_carry 41 = .ok (.bipush (-5), 2) := by decide +kernel
theorem dX5_carry_43 : decode cX5_carry 43 = .ok (.goto 4, 3) := by decide +kernel
theorem dX5_carry_46 : decode cX5_carry 46 = .ok (.iload_n 3, 1) := by decide +kernel
theorem dX5_carry_47 : decode cX5_carry 47 = .ok (.invokevirtual 111, 3) := by decide +kernel
theorem dX5_carry_50 : decode cX5_carry 50 = .ok (.ireturn, 1) := by decide +kernel
theorem dX5_face_0 : decode cX5_face 0 = .ok (.aload_n 0, 1) := by decide +kernel
theorem dX5_face_1 : decode cX5_face 1 = .ok (.iload_n 1, 1) := by decide +kernel
theorem dX5_face_2 : decode cX5_face 2 = .ok (.invokevirtual 95, 3) := by decide +kernel
theorem dX5_face_5 : decode cX5_face 5 = .ok (.ifCond .eq 10, 3) := by decide +kernel
theorem dX5_face_8 : decode cX5_face 8 = .ok (.iload_n 2, 1) := by decide +kernel
theorem dX5_face_9 : decode cX5_face 9 = .ok (.invokestatic 98, 3) := by decide +kernel
theorem dX5_face_12 : decode cX5_face 12 = .ok (.ifCond .ne 5, 3) := by decide +kernel
theorem dX5_face_15 : decode cX5_face 15 = .ok (.iconst (-1), 1) := by decide +kernel
theorem dX5_face_16 : decode cX5_face 16 = .ok (.ireturn, 1) := by decide +kernel
theorem dX5_face_17 : decode cX5_face 17 = .ok (.aload_n 0, 1) := by decide +kernel
theorem dX5_face_18 : decode cX5_face 18 = .ok (.invokevirtual 48, 3) := by decide +kernel
theorem dX5_face_21 : decode cX5_face 21 = .ok (.aload_n 0, 1) := by decide +kernel
theorem dX5_face_22 : decode cX5_face 22 = .ok (.iload_n 1, 1) := by decide +kernel
theorem dX5_face_23 : decode cX5_face 23 = .ok (.iconst 3, 1) := by decide +kernel
theorem dX5_face_24 : decode cX5_face 24 = .ok (.invokevirtual 29, 3) := by decide +kernel
theorem dX5_face_27 : decode cX5_face 27 = .ok (.istore_n 3, 1) := by decide +kernel
theorem dX5_face_28 : decode cX5_face 28 = .ok (.aload_n 0, 1) := by decide +kernel
theorem dX5_face_29 : decode cX5_face 29 = .ok (.iload_n 1, 1) := by decide +kernel
theorem dX5_face_30 : decode cX5_face 30 = .ok (.iconst 3, 1) := by decide +kernel
theorem dX5_face_31 : decode cX5_face 31 = .ok (.iload_n 2, 1) := by decide +kernel
theorem dX5_face_32 : decode cX5_face 32 = .ok (.invokevirtual 75, 3) := by decide +kernel
theorem dX5_face_35 : decode cX5_face 35 = .ok (.aload_n 0, 1) := by decide +kernel
theorem dX5_face_36 : decode cX5_face 36 = .ok (.iload_n 3, 1) := by decide +kernel
theorem dX5_face_37 : decode cX5_face 37 = .ok (.iload_n 2, 1) := by decide +kernel
theorem dX5_face_38 : decode cX5_face 38 = .ok (.if_icmp .ne 8, 3) := by decide +kernel
theorem dX5_face_41 : decode cX5_face 41 = .ok (.bipush (-5), 2) := by decide +kernel
theorem dX5_face_43 : decode cX5_face 43 = .ok (.goto 4, 3) := by decide +kernel
theorem dX5_face_46 : decode cX5_face 46 = .ok (.iload_n 3, 1) := by decide +kernel
theorem dX5_face_47 : decode cX5_face 47 = .ok (.invokevirtual 111, 3) := by decide +kernel
theorem dX5_face_50 : decode cX5_face 50 = .ok (.ireturn, 1) := by decide +kernel
theorem dX5_crow_0 : decode cX5_crow 0 = .ok (.aload_n 0, 1) := by decide +kernel
theorem dX5_crow_1 : decode cX5_crow 1 = .ok (.invokevirtual 48, 3) := by decide +kernel
theorem dX5_crow_4 : decode cX5_crow 4 = .ok (.aload_n 0, 1) := by decide +kernel
theorem dX5_crow_5 : decode cX5_crow 5 = .ok (.aload_n 0, 1) := by decide +kernel
theorem dX5_crow_6 : decode cX5_crow 6 = .ok (.iload_n 1, 1) := by decide +kernel
theorem dX5_crow_7 : decode cX5_crow 7 = .ok (.iload_n 2, 1) := by decide +kernel
theorem dX5_crow_8 : decode cX5_crow 8 = .ok (.invokevirtual 114, 3) := by decide +kernel
theorem dX5_crow_11 : decode cX5_crow 11 = .ok (.invokevirtual 111, 3) := by decide +kernel
theorem dX5_crow_14 : decode cX5_crow 14 = .ok (.ireturn, 1) := by decide +kernel
theorem dX5_scare_0 : decode cX5_scare 0 = .ok (.aload_n 0, 1) := by decide +kernel
theorem dX5_scare_1 : decode cX5_scare 1 = .ok (.iload_n 1, 1) := by decide +kernel
theorem dX5_scare_2 : decode cX5_scare 2 = .ok (.invokevirtual 95, 3) := by decide +kernel
theorem dX5_scare_5 : decode cX5_scare 5 = .ok (.ifCond .ne 5, 3) := by decide +kernel
theorem dX5_scare_8 : decode cX5_scare 8 = .ok (.iconst (-1), 1) := by decide +kernel
theorem dX5_scare_9 : decode cX5_scare 9 = .ok (.ireturn, 1) := by decide +kernel
theorem dX5_scare_10 : decode cX5_scare 10 = .ok (.aload_n 0, 1) := by decide +kernel
theorem dX5_scare_11 : decode cX5_scare 11 = .ok (.invokevirtual 48, 3) := by decide +kernel
theorem dX5_scare_14 : decode cX5_scare 14 = .ok (.aload_n 0, 1) := by decide +kernel
theorem dX5_scare_15 : decode cX5_scare 15 = .ok (.iload_n 1, 1) := by decide +kernel
theorem dX5_scare_16 : decode cX5_scare 16 = .ok (.invokevirtual 79, 3) := by decide +kernel
theorem dX5_scare_19 : decode cX5_scare 19 = .ok (.istore_n 2, 1) := by decide +kernel
theorem dX5_scare_20 : decode cX5_scare 20 = .ok (.aload_n 0, 1) := by decide +kernel
theorem dX5_scare_21 : decode cX5_scare 21 = .ok (.iload_n 1, 1) := by decide +kernel
theorem dX5_scare_22 : decode cX5_scare 22 = .ok (.invokevirtual 82, 3) := by decide +kernel
theorem dX5_scare_25 : decode cX5_scare 25 = .ok (.aload_n 0, 1) := by decide +kernel
theorem dX5_scare_26 : decode cX5_scare 26 = .ok (.iload_n 2, 1) := by decide +kernel
theorem dX5_scare_27 : decode cX5_scare 27 = .ok (.ifCond .ne 8, 3) := by decide +kernel
theorem dX5_scare_30 : decode cX5_scare 30 = .ok (.bipush (-5), 2) := by decide +kernel
theorem dX5_scare_32 : decode cX5_scare 32 = .ok (.goto 4, 3) := by decide +kernel
theorem dX5_scare_35 : decode cX5_scare 35 = .ok (.iload_n 2, 1) := by decide +kernel
theorem dX5_scare_36 : decode cX5_scare 36 = .ok (.invokevirtual 111, 3) := by decide +kernel
theorem dX5_scare_39 : decode cX5_scare 39 = .ok (.ireturn, 1) := by decide +kernel
theorem dX5_fill_0 : decode cX5_fill 0 = .ok (.aload_n 0, 1) := by decide +kernel
theorem dX5_fill_1 : decode cX5_fill 1 = .ok (.invokevirtual 48, 3) := by decide +kernel
theorem dX5_fill_4 : decode cX5_fill 4 = .ok (.aload_n 0, 1) := by decide +kernel
theorem dX5_fill_5 : decode cX5_fill 5 = .ok (.aload_n 0, 1) := by decide +kernel
theorem dX5_fill_6 : decode cX5_fill 6 = .ok (.iload_n 1, 1) := by decide +kernel
theorem dX5_fill_7 : decode cX5_fill 7 = .ok (.iload_n 2, 1) := by decide +kernel
theorem dX5_fill_8 : decode cX5_fill 8 = .ok (.invokevirtual 117, 3) := by decide +kernel
theorem dX5_fill_11 : decode cX5_fill 11 = .ok (.invokevirtual 111, 3) := by decide +kernel
theorem dX5_fill_14 : decode cX5_fill 14 = .ok (.ireturn, 1) := by decide +kernel
theorem dX5_seats_0 : decode cX5_seats 0 = .ok (.iload_n 1, 1) := by decide +kernel
theorem dX5_seats_1 : decode cX5_seats 1 = .ok (.invokestatic 108, 3) := by decide +kernel
theorem dX5_seats_4 : decode cX5_seats 4 = .ok (.ifCond .ne 5, 3) := by decide +kernel
theorem dX5_seats_7 : decode cX5_seats 7 = .ok (.iconst (-1), 1) := by decide +kernel
theorem dX5_seats_8 : decode cX5_seats 8 = .ok (.ireturn, 1) := by decide +kernel
theorem dX5_seats_9 : decode cX5_seats 9 = .ok (.iload_n 2, 1) := by decide +kernel
theorem dX5_seats_10 : decode cX5_seats 10 = .ok (.iconst 1, 1) := by decide +kernel
theorem dX5_seats_11 : decode cX5_seats 11 = .ok (.bipush 9, 2) := by decide +kernel
theorem dX5_seats_13 : decode cX5_seats 13 = .ok (.invokestatic 25, 3) := by decide +kernel
theorem dX5_seats_16 : decode cX5_seats 16 = .ok (.ifCond .ne 6, 3) := by decide +kernel
theorem dX5_seats_19 : decode cX5_seats 19 = .ok (.bipush (-2), 2) := by decide +kernel
theorem dX5_seats_21 : decode cX5_seats 21 = .ok (.ireturn, 1) := by decide +kernel
theorem dX5_seats_22 : decode cX5_seats 22 = .ok (.aload_n 0, 1) := by decide +kernel
theorem dX5_seats_23 : decode cX5_seats 23 = .ok (.invokevirtual 48, 3) := by decide +kernel
theorem dX5_seats_26 : decode cX5_seats 26 = .ok (.aload_n 0, 1) := by decide +kernel
theorem dX5_seats_27 : decode cX5_seats 27 = .ok (.getfield 7, 3) := by decide +kernel
theorem dX5_seats_30 : decode cX5_seats 30 = .ok (.bipush 11, 2) := by decide +kernel
theorem dX5_seats_32 : decode cX5_seats 32 = .ok (.iload_n 1, 1) := by decide +kernel
theorem dX5_seats_33 : decode cX5_seats 33 = .ok (.iadd, 1) := by decide +kernel
theorem dX5_seats_34 : decode cX5_seats 34 = .ok (.iaload, 1) := by decide +kernel
theorem dX5_seats_35 : decode cX5_seats 35 = .ok (.istore_n 3, 1) := by decide +kernel
theorem dX5_seats_36 : decode cX5_seats 36 = .ok (.aload_n 0, 1) := by decide +kernel
theorem dX5_seats_37 : decode cX5_seats 37 = .ok (.getfield 7, 3) := by decide +kernel
theorem dX5_seats_40 : decode cX5_seats 40 = .ok (.bipush 11, 2) := by decide +kernel
theorem dX5_seats_42 : decode cX5_seats 42 = .ok (.iload_n 1, 1) := by decide +kernel
theorem dX5_seats_43 : decode cX5_seats 43 = .ok (.iadd, 1) := by decide +kernel
theorem dX5_seats_44 : decode cX5_seats 44 = .ok (.iload_n 2, 1) := by decide +kernel
theorem dX5_seats_45 : decode cX5_seats 45 = .ok (.iastore, 1) := by decide +kernel
theorem dX5_seats_46 : decode cX5_seats 46 = .ok (.aload_n 0, 1) := by decide +kernel
theorem dX5_seats_47 : decode cX5_seats 47 = .ok (.iload_n 3, 1) := by decide +kernel
theorem dX5_seats_48 : decode cX5_seats 48 = .ok (.iload_n 2, 1) := by decide +kernel
theorem dX5_seats_49 : decode cX5_seats 49 = .ok (.if_icmp .ne 8, 3) := by decide +kernel
theorem dX5_seats_52 : decode cX5_seats 52 = .ok (.bipush (-5), 2) := by decide +kernel
theorem dX5_seats_54 : decode cX5_seats 54 = .ok (.goto 4, 3) := by decide +kernel
theorem dX5_seats_57 : decode cX5_seats 57 = .ok (.iload_n 3, 1) := by decide +kernel
theorem dX5_seats_58 : decode cX5_seats 58 = .ok (.invokevirtual 111, 3) := by decide +kernel
theorem dX5_seats_61 : decode cX5_seats 61 = .ok (.ireturn, 1) := by decide +kernel
theorem dX5_wind_0 : decode cX5_wind 0 = .ok (.aload_n 0, 1) := by decide +kernel
theorem dX5_wind_1 : decode cX5_wind 1 = .ok (.invokevirtual 48, 3) := by decide +kernel
theorem dX5_wind_4 : decode cX5_wind 4 = .ok (.aload_n 0, 1) := by decide +kernel
theorem dX5_wind_5 : decode cX5_wind 5 = .ok (.aload_n 0, 1) := by decide +kernel
theorem dX5_wind_6 : decode cX5_wind 6 = .ok (.iload_n 1, 1) := by decide +kernel
theorem dX5_wind_7 : decode cX5_wind 7 = .ok (.iload_n 2, 1) := by decide +kernel
theorem dX5_wind_8 : decode cX5_wind 8 = .ok (.invokevirtual 120, 3) := by decide +kernel
theorem dX5_wind_11 : decode cX5_wind 11 = .ok (.invokevirtual 111, 3) := by decide +kernel
theorem dX5_wind_14 : decode cX5_wind 14 = .ok (.ireturn, 1) := by decide +kernel
theorem dX5_set_0 : decode cX5_set 0 = .ok (.iload_n 1, 1) := by decide +kernel
theorem dX5_set_1 : decode cX5_set 1 = .ok (.iconst 0, 1) := by decide +kernel
theorem dX5_set_2 : decode cX5_set 2 = .ok (.iconst 1, 1) := by decide +kernel
theorem dX5_set_3 : decode cX5_set 3 = .ok (.invokestatic 25, 3) := by decide +kernel
theorem dX5_set_6 : decode cX5_set 6 = .ok (.ifCond .ne 5, 3) := by decide +kernel
theorem dX5_set_9 : decode cX5_set 9 = .ok (.iconst (-1), 1) := by decide +kernel
theorem dX5_set_10 : decode cX5_set 10 = .ok (.ireturn, 1) := by decide +kernel
theorem dX5_set_11 : decode cX5_set 11 = .ok (.iload_n 2, 1) := by decide +kernel
theorem dX5_set_12 : decode cX5_set 12 = .ok (.iconst 0, 1) := by decide +kernel
theorem dX5_set_13 : decode cX5_set 13 = .ok (.iload_n 1, 1) := by decide +kernel
theorem dX5_set_14 : decode cX5_set 14 = .ok (.ifCond .ne 8, 3) := by decide +kernel
theorem dX5_set_17 : decode cX5_set 17 = .ok (.bipush 50, 2) := by decide +kernel
theorem dX5_set_19 : decode cX5_set 19 = .ok (.goto 5, 3) := by decide +kernel
theorem dX5_set_22 : decode cX5_set 22 = .ok (.bipush 8, 2) := by decide +kernel
theorem dX5_set_24 : decode cX5_set 24 = .ok (.invokestatic 25, 3) := by decide +kernel
theorem dX5_set_27 : decode cX5_set 27 = .ok (.ifCond .ne 6, 3) := by decide +kernel
theorem dX5_set_30 : decode cX5_set 30 = .ok (.bipush (-2), 2) := by decide +kernel
theorem dX5_set_32 : decode cX5_set 32 = .ok (.ireturn, 1) := by decide +kernel
theorem dX5_set_33 : decode cX5_set 33 = .ok (.aload_n 0, 1) := by decide +kernel
theorem dX5_set_34 : decode cX5_set 34 = .ok (.invokevirtual 48, 3) := by decide +kernel
theorem dX5_set_37 : decode cX5_set 37 = .ok (.aload_n 0, 1) := by decide +kernel
theorem dX5_set_38 : decode cX5_set 38 = .ok (.getfield 7, 3) := by decide +kernel
theorem dX5_set_41 : decode cX5_set 41 = .ok (.iconst 0, 1) := by decide +kernel
theorem dX5_set_42 : decode cX5_set 42 = .ok (.iload_n 1, 1) := by decide +kernel
theorem dX5_set_43 : decode cX5_set 43 = .ok (.iadd, 1) := by decide +kernel
theorem dX5_set_44 : decode cX5_set 44 = .ok (.iaload, 1) := by decide +kernel
theorem dX5_set_45 : decode cX5_set 45 = .ok (.istore_n 3, 1) := by decide +kernel
theorem dX5_set_46 : decode cX5_set 46 = .ok (.aload_n 0, 1) := by decide +kernel
theorem dX5_set_47 : decode cX5_set 47 = .ok (.getfield 7, 3) := by decide +kernel
theorem dX5_set_50 : decode cX5_set 50 = .ok (.iconst 0, 1) := by decide +kernel
theorem dX5_set_51 : decode cX5_set 51 = .ok (.iload_n 1, 1) := by decide +kernel
theorem dX5_set_52 : decode cX5_set 52 = .ok (.iadd, 1) := by decide +kernel
theorem dX5_set_53 : decode cX5_set 53 = .ok (.iload_n 2, 1) := by decide +kernel
theorem dX5_set_54 : decode cX5_set 54 = .ok (.iastore, 1) := by decide +kernel
theorem dX5_set_55 : decode cX5_set 55 = .ok (.aload_n 0, 1) := by decide +kernel
theorem dX5_set_56 : decode cX5_set 56 = .ok (.iload_n 3, 1) := by decide +kernel
theorem dX5_set_57 : decode cX5_set 57 = .ok (.iload_n 2, 1) := by decide +kernel
theorem dX5_set_58 : decode cX5_set 58 = .ok (.if_icmp .ne 8, 3) := by decide +kernel
theorem dX5_set_61 : decode cX5_set 61 = .ok (.bipush (-5), 2) := by decide +kernel
theorem dX5_set_63 : decode cX5_set 63 = .ok (.goto 4, 3) := by decide +kernel
theorem dX5_set_66 : decode cX5_set 66 = .ok (.iload_n 3, 1) := by decide +kernel
theorem dX5_set_67 : decode cX5_set 67 = .ok (.invokevirtual 111, 3) := by decide +kernel
theorem dX5_set_70 : decode cX5_set 70 = .ok (.ireturn, 1) := by decide +kernel
theorem dX5_vote_0 : decode cX5_vote 0 = .ok (.aload_n 0, 1) := by decide +kernel
theorem dX5_vote_1 : decode cX5_vote 1 = .ok (.invokevirtual 48, 3) := by decide +kernel
theorem dX5_vote_4 : decode cX5_vote 4 = .ok (.aload_n 0, 1) := by decide +kernel
theorem dX5_vote_5 : decode cX5_vote 5 = .ok (.aload_n 0, 1) := by decide +kernel
theorem dX5_vote_6 : decode cX5_vote 6 = .ok (.invokevirtual 123, 3) := by decide +kernel
theorem dX5_vote_9 : decode cX5_vote 9 = .ok (.invokevirtual 111, 3) := by decide +kernel
theorem dX5_vote_12 : decode cX5_vote 12 = .ok (.ireturn, 1) := by decide +kernel
theorem dX5_pass_0 : decode cX5_pass 0 = .ok (.aload_n 0, 1) := by decide +kernel
theorem dX5_pass_1 : decode cX5_pass 1 = .ok (.invokevirtual 48, 3) := by decide +kernel
theorem dX5_pass_4 : decode cX5_pass 4 = .ok (.aload_n 0, 1) := by decide +kernel
theorem dX5_pass_5 : decode cX5_pass 5 = .ok (.aload_n 0, 1) := by decide +kernel
theorem dX5_pass_6 : decode cX5_pass 6 = .ok (.iload_n 1, 1) := by decide +kernel
theorem dX5_pass_7 : decode cX5_pass 7 = .ok (.invokevirtual 126, 3) := by decide +kernel
theorem dX5_pass_10 : decode cX5_pass 10 = .ok (.invokevirtual 111, 3) := by decide +kernel
theorem dX5_pass_13 : decode cX5_pass 13 = .ok (.ireturn, 1) := by decide +kernel
theorem dX5_type_0 : decode cX5_type 0 = .ok (.aload_n 0, 1) := by decide +kernel
theorem dX5_type_1 : decode cX5_type 1 = .ok (.getfield 129, 3) := by decide +kernel
theorem dX5_type_4 : decode cX5_type 4 = .ok (.bipush 60, 2) := by decide +kernel
theorem dX5_type_6 : decode cX5_type 6 = .ok (.if_icmp .ne 6, 3) := by decide +kernel
theorem dX5_type_9 : decode cX5_type 9 = .ok (.bipush (-3), 2) := by decide +kernel
theorem dX5_type_11 : decode cX5_type 11 = .ok (.ireturn, 1) := by decide +kernel
theorem dX5_type_12 : decode cX5_type 12 = .ok (.aload_n 0, 1) := by decide +kernel
theorem dX5_type_13 : decode cX5_type 13 = .ok (.getfield 22, 3) := by decide +kernel
theorem dX5_type_16 : decode cX5_type 16 = .ok (.aload_n 0, 1) := by decide +kernel
theorem dX5_type_17 : decode cX5_type 17 = .ok (.getfield 129, 3) := by decide +kernel
theorem dX5_type_20 : decode cX5_type 20 = .ok (.iload_n 1, 1) := by decide +kernel
theorem dX5_type_21 : decode cX5_type 21 = .ok (.iastore, 1) := by decide +kernel
theorem dX5_type_22 : decode cX5_type 22 = .ok (.aload_n 0, 1) := by decide +kernel
theorem dX5_type_23 : decode cX5_type 23 = .ok (.dup, 1) := by decide +kernel
theorem dX5_type_24 : decode cX5_type 24 = .ok (.getfield 129, 3) := by decide +kernel
theorem dX5_type_27 : decode cX5_type 27 = .ok (.iconst 1, 1) := by decide +kernel
theorem dX5_type_28 : decode cX5_type 28 = .ok (.iadd, 1) := by decide +kernel
theorem dX5_type_29 : decode cX5_type 29 = .ok (.putfield 129, 3) := by decide +kernel
theorem dX5_type_32 : decode cX5_type 32 = .ok (.aload_n 0, 1) := by decide +kernel
theorem dX5_type_33 : decode cX5_type 33 = .ok (.getfield 129, 3) := by decide +kernel
theorem dX5_type_36 : decode cX5_type 36 = .ok (.ireturn, 1) := by decide +kernel
theorem dX5_clearText_0 : decode cX5_clearText 0 = .ok (.aload_n 0, 1) := by decide +kernel
theorem dX5_clearText_1 : decode cX5_clearText 1 = .ok (.getfield 129, 3) := by decide +kernel
theorem dX5_clearText_4 : decode cX5_clearText 4 = .ok (.istore_n 1, 1) := by decide +kernel
theorem dX5_clearText_5 : decode cX5_clearText 5 = .ok (.aload_n 0, 1) := by decide +kernel
theorem dX5_clearText_6 : decode cX5_clearText 6 = .ok (.iconst 0, 1) := by decide +kernel
theorem dX5_clearText_7 : decode cX5_clearText 7 = .ok (.putfield 129, 3) := by decide +kernel
theorem dX5_clearText_10 : decode cX5_clearText 10 = .ok (.iload_n 1, 1) := by decide +kernel
theorem dX5_clearText_11 : decode cX5_clearText 11 = .ok (.ireturn, 1) := by decide +kernel
theorem dX5_code_0 : decode cX5_code 0 = .ok (.aload_n 0, 1) := by decide +kernel
theorem dX5_code_1 : decode cX5_code 1 = .ok (.getfield 132, 3) := by decide +kernel
theorem dX5_code_4 : decode cX5_code 4 = .ok (.aload_n 0, 1) := by decide +kernel
theorem dX5_code_5 : decode cX5_code 5 = .ok (.getfield 129, 3) := by decide +kernel
theorem dX5_code_8 : decode cX5_code 8 = .ok (.if_icmp .ge 15, 3) := by decide +kernel
theorem dX5_code_11 : decode cX5_code 11 = .ok (.aload_n 0, 1) := by decide +kernel
theorem dX5_code_12 : decode cX5_code 12 = .ok (.getfield 22, 3) := by decide +kernel
theorem dX5_code_15 : decode cX5_code 15 = .ok (.aload_n 0, 1) := by decide +kernel
theorem dX5_code_16 : decode cX5_code 16 = .ok (.getfield 132, 3) := by decide +kernel
theorem dX5_code_19 : decode cX5_code 19 = .ok (.iaload, 1) := by decide +kernel
theorem dX5_code_20 : decode cX5_code 20 = .ok (.goto 4, 3) := by decide +kernel
theorem dX5_code_23 : decode cX5_code 23 = .ok (.iconst 0, 1) := by decide +kernel
theorem dX5_code_24 : decode cX5_code 24 = .ok (.ireturn, 1) := by decide +kernel
theorem dX5_takes_0 : decode cX5_takes 0 = .ok (.aload_n 0, 1) := by decide +kernel
theorem dX5_takes_1 : decode cX5_takes 1 = .ok (.getfield 132, 3) := by decide +kernel
theorem dX5_takes_4 : decode cX5_takes 4 = .ok (.aload_n 0, 1) := by decide +kernel
theorem dX5_takes_5 : decode cX5_takes 5 = .ok (.getfield 129, 3) := by decide +kernel
theorem dX5_takes_8 : decode cX5_takes 8 = .ok (.if_icmp .ge 20, 3) := by decide +kernel
theorem dX5_takes_11 : decode cX5_takes 11 = .ok (.aload_n 0, 1) := by decide +kernel
theorem dX5_takes_12 : decode cX5_takes 12 = .ok (.getfield 22, 3) := by decide +kernel
theorem dX5_takes_15 : decode cX5_takes 15 = .ok (.aload_n 0, 1) := by decide +kernel
theorem dX5_takes_16 : decode cX5_takes 16 = .ok (.getfield 132, 3) := by decide +kernel
theorem dX5_takes_19 : decode cX5_takes 19 = .ok (.iaload, 1) := by decide +kernel
theorem dX5_takes_20 : decode cX5_takes 20 = .ok (.iload_n 1, 1) := by decide +kernel
theorem dX5_takes_21 : decode cX5_takes 21 = .ok (.if_icmp .ne 7, 3) := by decide +kernel
theorem dX5_takes_24 : decode cX5_takes 24 = .ok (.iconst 1, 1) := by decide +kernel
theorem dX5_takes_25 : decode cX5_takes 25 = .ok (.goto 4, 3) := by decide +kernel
theorem dX5_takes_28 : decode cX5_takes 28 = .ok (.iconst 0, 1) := by decide +kernel
theorem dX5_takes_29 : decode cX5_takes 29 = .ok (.istore_n 2, 1) := by decide +kernel
theorem dX5_takes_30 : decode cX5_takes 30 = .ok (.aload_n 0, 1) := by decide +kernel
theorem dX5_takes_31 : decode cX5_takes 31 = .ok (.dup, 1) := by decide +kernel
theorem dX5_takes_32 : decode cX5_takes 32 = .ok (.getfield 132, 3) := by decide +kernel
theorem dX5_takes_35 : decode cX5_takes 35 = .ok (.iload_n 2, 1) := by decide +kernel
theorem dX5_takes_36 : decode cX5_takes 36 = .ok (.ifCond .eq 7, 3) := by decide +kernel
theorem dX5_takes_39 : decode cX5_takes 39 = .ok (.iconst 1, 1) := by decide +kernel
theorem dX5_takes_40 : decode cX5_takes 40 = .ok (.goto 4, 3) := by decide +kernel
theorem dX5_takes_43 : decode cX5_takes 43 = .ok (.iconst 0, 1) := by decide +kernel
theorem dX5_takes_44 : decode cX5_takes 44 = .ok (.iadd, 1) := by decide +kernel
theorem dX5_takes_45 : decode cX5_takes 45 = .ok (.putfield 132, 3) := by decide +kernel
theorem dX5_takes_48 : decode cX5_takes 48 = .ok (.iload_n 2, 1) := by decide +kernel
theorem dX5_takes_49 : decode cX5_takes 49 = .ok (.ireturn, 1) := by decide +kernel
theorem dX5_readNumber_0 : decode cX5_readNumber 0 = .ok (.aload_n 0, 1) := by decide +kernel
theorem dX5_readNumber_1 : decode cX5_readNumber 1 = .ok (.invokevirtual 135, 3) := by decide +kernel
theorem dX5_readNumber_4 : decode cX5_readNumber 4 = .ok (.bipush 48, 2) := by decide +kernel
theorem dX5_readNumber_6 : decode cX5_readNumber 6 = .ok (.isub, 1) := by decide +kernel
theorem dX5_readNumber_7 : decode cX5_readNumber 7 = .ok (.istore_n 3, 1) := by decide +kernel
theorem dX5_readNumber_8 : decode cX5_readNumber 8 = .ok (.iload_n 3, 1) := by decide +kernel
theorem dX5_readNumber_9 : decode cX5_readNumber 9 = .ok (.iload_n 1, 1) := by decide +kernel
theorem dX5_readNumber_10 : decode cX5_readNumber 10 = .ok (.bipush 9, 2) := by decide +kernel
theorem dX5_readNumber_12 : decode cX5_readNumber 12 = .ok (.invokestatic 25, 3) := by decide +kernel
theorem dX5_readNumber_15 : decode cX5_readNumber 15 = .ok (.ifCond .eq 8, 3) := by decide +kernel
theorem dX5_readNumber_18 : decode cX5_readNumber 18 = .ok (.iload_n 3, 1) := by decide +kernel
theorem dX5_readNumber_19 : decode cX5_readNumber 19 = .ok (.iload_n 2, 1) := by decide +kernel
theorem dX5_readNumber_20 : decode cX5_readNumber 20 = .ok (.if_icmp .le 6, 3) := by decide +kernel
theorem dX5_readNumber_23 : decode cX5_readNumber 23 = .ok (.bipush (-5), 2) := by decide +kernel
theorem dX5_readNumber_25 : decode cX5_readNumber 25 = .ok (.ireturn, 1) := by decide +kernel
theorem dX5_readNumber_26 : decode cX5_readNumber 26 = .ok (.aload_n 0, 1) := by decide +kernel
theorem dX5_readNumber_27 : decode cX5_readNumber 27 = .ok (.dup, 1) := by decide +kernel
theorem dX5_readNumber_28 : decode cX5_readNumber 28 = .ok (.getfield 132, 3) := by decide +kernel
theorem dX5_readNumber_31 : decode cX5_readNumber 31 = .ok (.iconst 1, 1) := by decide +kernel
theorem dX5_readNumber_32 : decode cX5_readNumber 32 = .ok (.iadd, 1) := by decide +kernel
theorem dX5_readNumber_33 : decode cX5_readNumber 33 = .ok (.putfield 132, 3) := by decide +kernel
theorem dX5_readNumber_36 : decode cX5_readNumber 36 = .ok (.aload_n 0, 1) := by decide +kernel
theorem dX5_readNumber_37 : decode cX5_readNumber 37 = .ok (.invokevirtual 135, 3) := by decide +kernel
theorem dX5_readNumber_40 : decode cX5_readNumber 40 = .ok (.bipush 48, 2) := by decide +kernel
theorem dX5_readNumber_42 : decode cX5_readNumber 42 = .ok (.isub, 1) := by decide +kernel
theorem dX5_readNumber_43 : decode cX5_readNumber 43 = .ok (.istore 4, 2) := by decide +kernel
theorem dX5_readNumber_45 : decode cX5_readNumber 45 = .ok (.iload_n 3, 1) := by decide +kernel
theorem dX5_readNumber_46 : decode cX5_readNumber 46 = .ok (.ifCond .le 43, 3) := by decide +kernel
theorem dX5_readNumber_49 : decode cX5_readNumber 49 = .ok (.iload 4, 2) := by decide +kernel
theorem dX5_readNumber_51 : decode cX5_readNumber 51 = .ok (.iconst 0, 1) := by decide +kernel
theorem dX5_readNumber_52 : decode cX5_readNumber 52 = .ok (.bipush 9, 2) := by decide +kernel
theorem dX5_readNumber_54 : decode cX5_readNumber 54 = .ok (.invokestatic 25, 3) := by decide +kernel
theorem dX5_readNumber_57 : decode cX5_readNumber 57 = .ok (.ifCond .eq 32, 3) := by decide +kernel
theorem dX5_readNumber_60 : decode cX5_readNumber 60 = .ok (.bipush 10, 2) := by decide +kernel
theorem dX5_readNumber_62 : decode cX5_readNumber 62 = .ok (.iload_n 3, 1) := by decide +kernel
theorem dX5_readNumber_63 : decode cX5_readNumber 63 = .ok (.imul, 1) := by decide +kernel
theorem dX5_readNumber_64 : decode cX5_readNumber 64 = .ok (.iload 4, 2) := by decide +kernel
theorem dX5_readNumber_66 : decode cX5_readNumber 66 = .ok (.iadd, 1) := by decide +kernel
theorem dX5_readNumber_67 : decode cX5_readNumber 67 = .ok (.iload_n 2, 1) := by decide +kernel
theorem dX5_readNumber_68 : decode cX5_readNumber 68 = .ok (.if_icmp .gt 21, 3) := by decide +kernel
theorem dX5_readNumber_71 : decode cX5_readNumber 71 = .ok (.bipush 10, 2) := by decide +kernel
theorem dX5_readNumber_73 : decode cX5_readNumber 73 = .ok (.iload_n 3, 1) := by decide +kernel
theorem dX5_readNumber_74 : decode cX5_readNumber 74 = .ok (.imul, 1) := by decide +kernel
theorem dX5_readNumber_75 : decode cX5_readNumber 75 = .ok (.iload 4, 2) := by decide +kernel
theorem dX5_readNumber_77 : decode cX5_readNumber 77 = .ok (.iadd, 1) := by decide +kernel
theorem dX5_readNumber_78 : decode cX5_readNumber 78 = .ok (.istore_n 3, 1) := by decide +kernel
theorem dX5_readNumber_79 : decode cX5_readNumber 79 = .ok (.aload_n 0, 1) := by decide +kernel
theorem dX5_readNumber_80 : decode cX5_readNumber 80 = .ok (.dup, 1) := by decide +kernel
theorem dX5_readNumber_81 : decode cX5_readNumber 81 = .ok (.getfield 132, 3) := by decide +kernel
theorem dX5_readNumber_84 : decode cX5_readNumber 84 = .ok (.iconst 1, 1) := by decide +kernel
theorem dX5_readNumber_85 : decode cX5_readNumber 85 = .ok (.iadd, 1) := by decide +kernel
theorem dX5_readNumber_86 : decode cX5_readNumber 86 = .ok (.putfield 132, 3) := by decide +kernel
theorem dX5_readNumber_89 : decode cX5_readNumber 89 = .ok (.iload_n 3, 1) := by decide +kernel
theorem dX5_readNumber_90 : decode cX5_readNumber 90 = .ok (.ireturn, 1) := by decide +kernel
theorem dX5_readsBoth_0 : decode cX5_readsBoth 0 = .ok (.aload_n 0, 1) := by decide +kernel
theorem dX5_readsBoth_1 : decode cX5_readsBoth 1 = .ok (.aload_n 0, 1) := by decide +kernel
theorem dX5_readsBoth_2 : decode cX5_readsBoth 2 = .ok (.iconst 0, 1) := by decide +kernel
theorem dX5_readsBoth_3 : decode cX5_readsBoth 3 = .ok (.iload_n 1, 1) := by decide +kernel
theorem dX5_readsBoth_4 : decode cX5_readsBoth 4 = .ok (.invokevirtual 138, 3) := by decide +kernel
theorem dX5_readsBoth_7 : decode cX5_readsBoth 7 = .ok (.putfield 141, 3) := by decide +kernel
theorem dX5_readsBoth_10 : decode cX5_readsBoth 10 = .ok (.aload_n 0, 1) := by decide +kernel
theorem dX5_readsBoth_11 : decode cX5_readsBoth 11 = .ok (.getfield 141, 3) := by decide +kernel
theorem dX5_readsBoth_14 : decode cX5_readsBoth 14 = .ok (.bipush (-5), 2) := by decide +kernel
theorem dX5_readsBoth_16 : decode cX5_readsBoth 16 = .ok (.if_icmp .eq 11, 3) := by decide +kernel
theorem dX5_readsBoth_19 : decode cX5_readsBoth 19 = .ok (.aload_n 0, 1) := by decide +kernel
theorem dX5_readsBoth_20 : decode cX5_readsBoth 20 = .ok (.iload_n 2, 1) := by decide +kernel
theorem dX5_readsBoth_21 : decode cX5_readsBoth 21 = .ok (.invokevirtual 144, 3) := by decide +kernel
theorem dX5_readsBoth_24 : decode cX5_readsBoth 24 = .ok (.ifCond .ne 5, 3) := by decide +kernel
theorem dX5_readsBoth_27 : decode cX5_readsBoth 27 = .ok (.iconst 0, 1) := by decide +kernel
theorem dX5_readsBoth_28 : decode cX5_readsBoth 28 = .ok (.ireturn, 1) := by decide +kernel
theorem dX5_readsBoth_29 : decode cX5_readsBoth 29 = .ok (.aload_n 0, 1) := by decide +kernel
theorem dX5_readsBoth_30 : decode cX5_readsBoth 30 = .ok (.aload_n 0, 1) := by decide +kernel
theorem dX5_readsBoth_31 : decode cX5_readsBoth 31 = .ok (.iload_n 3, 1) := by decide +kernel
theorem dX5_readsBoth_32 : decode cX5_readsBoth 32 = .ok (.iload 4, 2) := by decide +kernel
theorem dX5_readsBoth_34 : decode cX5_readsBoth 34 = .ok (.invokevirtual 138, 3) := by decide +kernel
theorem dX5_readsBoth_37 : decode cX5_readsBoth 37 = .ok (.putfield 147, 3) := by decide +kernel
theorem dX5_readsBoth_40 : decode cX5_readsBoth 40 = .ok (.aload_n 0, 1) := by decide +kernel
theorem dX5_readsBoth_41 : decode cX5_readsBoth 41 = .ok (.getfield 147, 3) := by decide +kernel
theorem dX5_readsBoth_44 : decode cX5_readsBoth 44 = .ok (.bipush (-5), 2) := by decide +kernel
theorem dX5_readsBoth_46 : decode cX5_readsBoth 46 = .ok (.if_icmp .eq 7, 3) := by decide +kernel
theorem dX5_readsBoth_49 : decode cX5_readsBoth 49 = .ok (.iconst 1, 1) := by decide +kernel
theorem dX5_readsBoth_50 : decode cX5_readsBoth 50 = .ok (.goto 4, 3) := by decide +kernel
theorem dX5_readsBoth_53 : decode cX5_readsBoth 53 = .ok (.iconst 0, 1) := by decide +kernel
theorem dX5_readsBoth_54 : decode cX5_readsBoth 54 = .ok (.ireturn, 1) := by decide +kernel
theorem dX5_readsThing_0 : decode cX5_readsThing 0 = .ok (.aload_n 0, 1) := by decide +kernel
theorem dX5_readsThing_1 : decode cX5_readsThing 1 = .ok (.aload_n 0, 1) := by decide +kernel
theorem dX5_readsThing_2 : decode cX5_readsThing 2 = .ok (.invokevirtual 135, 3) := by decide +kernel
theorem dX5_readsThing_5 : decode cX5_readsThing 5 = .ok (.putfield 150, 3) := by decide +kernel
theorem dX5_readsThing_8 : decode cX5_readsThing 8 = .ok (.aload_n 0, 1) := by decide +kernel
theorem dX5_readsThing_9 : decode cX5_readsThing 9 = .ok (.getfield 150, 3) := by decide +kernel
theorem dX5_readsThing_12 : decode cX5_readsThing 12 = .ok (.lookupswitch 164 #[(46, 116), (99, 73), (102, 94), (118, 152), (119, 52)], 52) := by decide +kernel
theorem dX5_readsThing_64 : decode cX5_readsThing 64 = .ok (.aload_n 0, 1) := by decide +kernel
theorem dX5_readsThing_65 : decode cX5_readsThing 65 = .ok (.dup, 1) := by decide +kernel
theorem dX5_readsThing_66 : decode cX5_readsThing 66 = .ok (.getfield 132, 3) := by decide +kernel
theorem dX5_readsThing_69 : decode cX5_readsThing 69 = .ok (.iconst 1, 1) := by decide +kernel
theorem dX5_readsThing_70 : decode cX5_readsThing 70 = .ok (.iadd, 1) := by decide +kernel
theorem dX5_readsThing_71 : decode cX5_readsThing 71 = .ok (.putfield 132, 3) := by decide +kernel
theorem dX5_readsThing_74 : decode cX5_readsThing 74 = .ok (.aload_n 0, 1) := by decide +kernel
theorem dX5_readsThing_75 : decode cX5_readsThing 75 = .ok (.iconst 3, 1) := by decide +kernel
theorem dX5_readsThing_76 : decode cX5_readsThing 76 = .ok (.bipush 42, 2) := by decide +kernel
theorem dX5_readsThing_78 : decode cX5_readsThing 78 = .ok (.iconst 0, 1) := by decide +kernel
theorem dX5_readsThing_79 : decode cX5_readsThing 79 = .ok (.bipush 9, 2) := by decide +kernel
theorem dX5_readsThing_81 : decode cX5_readsThing 81 = .ok (.invokevirtual 153, 3) := by decide +kernel
theorem dX5_readsThing_84 : decode cX5_readsThing 84 = .ok (.ireturn, 1) := by decide +kernel
theorem dX5_readsThing_85 : decode cX5_readsThing 85 = .ok (.aload_n 0, 1) := by decide +kernel
theorem dX5_readsThing_86 : decode cX5_readsThing 86 = .ok (.dup, 1) := by decide +kernel
theorem dX5_readsThing_87 : decode cX5_readsThing 87 = .ok (.getfield 132, 3) := by decide +kernel
theorem dX5_readsThing_90 : decode cX5_readsThing 90 = .ok (.iconst 1, 1) := by decide +kernel
theorem dX5_readsThing_91 : decode cX5_readsThing 91 = .ok (.iadd, 1) := by decide +kernel
theorem dX5_readsThing_92 : decode cX5_readsThing 92 = .ok (.putfield 132, 3) := by decide +kernel
theorem dX5_readsThing_95 : decode cX5_readsThing 95 = .ok (.aload_n 0, 1) := by decide +kernel
theorem dX5_readsThing_96 : decode cX5_readsThing 96 = .ok (.bipush 11, 2) := by decide +kernel
theorem dX5_readsThing_98 : decode cX5_readsThing 98 = .ok (.bipush 58, 2) := by decide +kernel
theorem dX5_readsThing_100 : decode cX5_readsThing 100 = .ok (.iconst 0, 1) := by decide +kernel
theorem dX5_readsThing_101 : decode cX5_readsThing 101 = .ok (.iconst 3, 1) := by decide +kernel
theorem dX5_readsThing_102 : decode cX5_readsThing 102 = .ok (.invokevirtual 153, 3) := by decide +kernel
theorem dX5_readsThing_105 : decode cX5_readsThing 105 = .ok (.ireturn, 1) := by decide +kernel
theorem dX5_readsThing_106 : decode cX5_readsThing 106 = .ok (.aload_n 0, 1) := by decide +kernel
theorem dX5_readsThing_107 : decode cX5_readsThing 107 = .ok (.dup, 1) := by decide +kernel
theorem dX5_readsThing_108 : decode cX5_readsThing 108 = .ok (.getfield 132, 3) := by decide +kernel
theorem dX5_readsThing_111 : decode cX5_readsThing 111 = .ok (.iconst 1, 1) := by decide +kernel
theorem dX5_readsThing_112 : decode cX5_readsThing 112 = .ok (.iadd, 1) := by decide +kernel
theorem dX5_readsThing_113 : decode cX5_readsThing 113 = .ok (.putfield 132, 3) := by decide +kernel
theorem dX5_readsThing_116 : decode cX5_readsThing 116 = .ok (.aload_n 0, 1) := by decide +kernel
theorem dX5_readsThing_117 : decode cX5_readsThing 117 = .ok (.bipush 11, 2) := by decide +kernel
theorem dX5_readsThing_119 : decode cX5_readsThing 119 = .ok (.bipush 43, 2) := by decide +kernel
theorem dX5_readsThing_121 : decode cX5_readsThing 121 = .ok (.iconst 1, 1) := by decide +kernel
theorem dX5_readsThing_122 : decode cX5_readsThing 122 = .ok (.bipush 64, 2) := by decide +kernel
theorem dX5_readsThing_124 : decode cX5_readsThing 124 = .ok (.invokevirtual 153, 3) := by decide +kernel
theorem dX5_readsThing_127 : decode cX5_readsThing 127 = .ok (.ireturn, 1) := by decide +kernel
theorem dX5_readsThing_128 : decode cX5_readsThing 128 = .ok (.aload_n 0, 1) := by decide +kernel
theorem dX5_readsThing_129 : decode cX5_readsThing 129 = .ok (.dup, 1) := by decide +kernel
theorem dX5_readsThing_130 : decode cX5_readsThing 130 = .ok (.getfield 132, 3) := by decide +kernel
theorem dX5_readsThing_133 : decode cX5_readsThing 133 = .ok (.iconst 1, 1) := by decide +kernel
theorem dX5_readsThing_134 : decode cX5_readsThing 134 = .ok (.iadd, 1) := by decide +kernel
theorem dX5_readsThing_135 : decode cX5_readsThing 135 = .ok (.putfield 132, 3) := by decide +kernel
theorem dX5_readsThing_138 : decode cX5_readsThing 138 = .ok (.aload_n 0, 1) := by decide +kernel
theorem dX5_readsThing_139 : decode cX5_readsThing 139 = .ok (.aload_n 0, 1) := by decide +kernel
theorem dX5_readsThing_140 : decode cX5_readsThing 140 = .ok (.iconst 1, 1) := by decide +kernel
theorem dX5_readsThing_141 : decode cX5_readsThing 141 = .ok (.bipush 99, 2) := by decide +kernel
theorem dX5_readsThing_143 : decode cX5_readsThing 143 = .ok (.invokevirtual 138, 3) := by decide +kernel
theorem dX5_readsThing_146 : decode cX5_readsThing 146 = .ok (.putfield 141, 3) := by decide +kernel
theorem dX5_readsThing_149 : decode cX5_readsThing 149 = .ok (.aload_n 0, 1) := by decide +kernel
theorem dX5_readsThing_150 : decode cX5_readsThing 150 = .ok (.getfield 141, 3) := by decide +kernel
theorem dX5_readsThing_153 : decode cX5_readsThing 153 = .ok (.bipush (-5), 2) := by decide +kernel
theorem dX5_readsThing_155 : decode cX5_readsThing 155 = .ok (.if_icmp .eq 7, 3) := by decide +kernel
theorem dX5_readsThing_158 : decode cX5_readsThing 158 = .ok (.iconst 1, 1) := by decide +kernel
theorem dX5_readsThing_159 : decode cX5_readsThing 159 = .ok (.goto 4, 3) := by decide +kernel
theorem dX5_readsThing_162 : decode cX5_readsThing 162 = .ok (.iconst 0, 1) := by decide +kernel
theorem dX5_readsThing_163 : decode cX5_readsThing 163 = .ok (.ireturn, 1) := by decide +kernel
theorem dX5_readsThing_164 : decode cX5_readsThing 164 = .ok (.aload_n 0, 1) := by decide +kernel
theorem dX5_readsThing_165 : decode cX5_readsThing 165 = .ok (.dup, 1) := by decide +kernel
theorem dX5_readsThing_166 : decode cX5_readsThing 166 = .ok (.getfield 132, 3) := by decide +kernel
theorem dX5_readsThing_169 : decode cX5_readsThing 169 = .ok (.iconst 1, 1) := by decide +kernel
theorem dX5_readsThing_170 : decode cX5_readsThing 170 = .ok (.iadd, 1) := by decide +kernel
theorem dX5_readsThing_171 : decode cX5_readsThing 171 = .ok (.putfield 132, 3) := by decide +kernel
theorem dX5_readsThing_174 : decode cX5_readsThing 174 = .ok (.iconst 1, 1) := by decide +kernel
theorem dX5_readsThing_175 : decode cX5_readsThing 175 = .ok (.ireturn, 1) := by decide +kernel
theorem dX5_readsThing_176 : decode cX5_readsThing 176 = .ok (.iconst 0, 1) := by decide +kernel
theorem dX5_readsThing_177 : decode cX5_readsThing 177 = .ok (.ireturn, 1) := by decide +kernel
theorem dX5_findFault_0 : decode cX5_findFault 0 = .ok (.aload_n 0, 1) := by decide +kernel
theorem dX5_findFault_1 : decode cX5_findFault 1 = .ok (.iconst 0, 1) := by decide +kernel
theorem dX5_findFault_2 : decode cX5_findFault 2 = .ok (.putfield 132, 3) := by decide +kernel
theorem dX5_findFault_5 : decode cX5_findFault 5 = .ok (.aload_n 0, 1) := by decide +kernel
theorem dX5_findFault_6 : decode cX5_findFault 6 = .ok (.invokevirtual 157, 3) := by decide +kernel
theorem dX5_findFault_9 : decode cX5_findFault 9 = .ok (.ifCond .eq 31, 3) := by decide +kernel
theorem dX5_findFault_12 : decode cX5_findFault 12 = .ok (.aload_n 0, 1) := by decide +kernel
theorem dX5_findFault_13 : decode cX5_findFault 13 = .ok (.getfield 132, 3) := by decide +kernel
theorem dX5_findFault_16 : decode cX5_findFault 16 = .ok (.aload_n 0, 1) := by decide +kernel
theorem dX5_findFault_17 : decode cX5_findFault 17 = .ok (.getfield 129, 3) := by decide +kernel
theorem dX5_findFault_20 : decode cX5_findFault 20 = .ok (.if_icmp .ne 6, 3) := by decide +kernel
theorem dX5_findFault_23 : decode cX5_findFault 23 = .ok (.bipush (-5), 2) := by decide +kernel
theorem dX5_findFault_25 : decode cX5_findFault 25 = .ok (.ireturn, 1) := by decide +kernel
theorem dX5_findFault_26 : decode cX5_findFault 26 = .ok (.aload_n 0, 1) := by decide +kernel
theorem dX5_findFault_27 : decode cX5_findFault 27 = .ok (.bipush 59, 2) := by decide +kernel
theorem dX5_findFault_29 : decode cX5_findFault 29 = .ok (.invokevirtual 144, 3) := by decide +kernel
theorem dX5_findFault_32 : decode cX5_findFault 32 = .ok (.ifCond .ne (-27), 3) := by decide +kernel
theorem dX5_findFault_35 : decode cX5_findFault 35 = .ok (.aload_n 0, 1) := by decide +kernel
theorem dX5_findFault_36 : decode cX5_findFault 36 = .ok (.getfield 132, 3) := by decide +kernel
theorem dX5_findFault_39 : decode cX5_findFault 39 = .ok (.ireturn, 1) := by decide +kernel
theorem dX5_findFault_40 : decode cX5_findFault 40 = .ok (.aload_n 0, 1) := by decide +kernel
theorem dX5_findFault_41 : decode cX5_findFault 41 = .ok (.getfield 132, 3) := by decide +kernel
theorem dX5_findFault_44 : decode cX5_findFault 44 = .ok (.ireturn, 1) := by decide +kernel
theorem dX5_doThing_0 : decode cX5_doThing 0 = .ok (.aload_n 0, 1) := by decide +kernel
theorem dX5_doThing_1 : decode cX5_doThing 1 = .ok (.getfield 150, 3) := by decide +kernel
theorem dX5_doThing_4 : decode cX5_doThing 4 = .ok (.lookupswitch 92 #[(46, 83), (99, 57), (102, 70), (119, 44)], 44) := by decide +kernel
theorem dX5_doThing_48 : decode cX5_doThing 48 = .ok (.aload_n 0, 1) := by decide +kernel
theorem dX5_doThing_49 : decode cX5_doThing 49 = .ok (.aload_n 0, 1) := by decide +kernel
theorem dX5_doThing_50 : decode cX5_doThing 50 = .ok (.getfield 141, 3) := by decide +kernel
theorem dX5_doThing_53 : decode cX5_doThing 53 = .ok (.aload_n 0, 1) := by decide +kernel
theorem dX5_doThing_54 : decode cX5_doThing 54 = .ok (.getfield 147, 3) := by decide +kernel
theorem dX5_doThing_57 : decode cX5_doThing 57 = .ok (.invokevirtual 120, 3) := by decide +kernel
theorem dX5_doThing_60 : decode cX5_doThing 60 = .ok (.ireturn, 1) := by decide +kernel
theorem dX5_doThing_61 : decode cX5_doThing 61 = .ok (.aload_n 0, 1) := by decide +kernel
theorem dX5_doThing_62 : decode cX5_doThing 62 = .ok (.aload_n 0, 1) := by decide +kernel
theorem dX5_doThing_63 : decode cX5_doThing 63 = .ok (.getfield 141, 3) := by decide +kernel
theorem dX5_doThing_66 : decode cX5_doThing 66 = .ok (.aload_n 0, 1) := by decide +kernel
theorem dX5_doThing_67 : decode cX5_doThing 67 = .ok (.getfield 147, 3) := by decide +kernel
theorem dX5_doThing_70 : decode cX5_doThing 70 = .ok (.invokevirtual 114, 3) := by decide +kernel
theorem dX5_doThing_73 : decode cX5_doThing 73 = .ok (.ireturn, 1) := by decide +kernel
theorem dX5_doThing_74 : decode cX5_doThing 74 = .ok (.aload_n 0, 1) := by decide +kernel
theorem dX5_doThing_75 : decode cX5_doThing 75 = .ok (.aload_n 0, 1) := by decide +kernel
theorem dX5_doThing_76 : decode cX5_doThing 76 = .ok (.getfield 141, 3) := by decide +kernel
theorem dX5_doThing_79 : decode cX5_doThing 79 = .ok (.aload_n 0, 1) := by decide +kernel
theorem dX5_doThing_80 : decode cX5_doThing 80 = .ok (.getfield 147, 3) := by decide +kernel
theorem dX5_doThing_83 : decode cX5_doThing 83 = .ok (.invokevirtual 117, 3) := by decide +kernel
theorem dX5_doThing_86 : decode cX5_doThing 86 = .ok (.ireturn, 1) := by decide +kernel
theorem dX5_doThing_87 : decode cX5_doThing 87 = .ok (.aload_n 0, 1) := by decide +kernel
theorem dX5_doThing_88 : decode cX5_doThing 88 = .ok (.aload_n 0, 1) := by decide +kernel
theorem dX5_doThing_89 : decode cX5_doThing 89 = .ok (.getfield 141, 3) := by decide +kernel
theorem dX5_doThing_92 : decode cX5_doThing 92 = .ok (.invokevirtual 126, 3) := by decide +kernel
theorem dX5_doThing_95 : decode cX5_doThing 95 = .ok (.ireturn, 1) := by decide +kernel
theorem dX5_doThing_96 : decode cX5_doThing 96 = .ok (.aload_n 0, 1) := by decide +kernel
theorem dX5_doThing_97 : decode cX5_doThing 97 = .ok (.invokevirtual 123, 3) := by decide +kernel
theorem dX5_doThing_100 : decode cX5_doThing 100 = .ok (.ireturn, 1) := by decide +kernel
theorem dX5_perform_0 : decode cX5_perform 0 = .ok (.aload_n 0, 1) := by decide +kernel
theorem dX5_perform_1 : decode cX5_perform 1 = .ok (.invokevirtual 161, 3) := by decide +kernel
theorem dX5_perform_4 : decode cX5_perform 4 = .ok (.istore_n 1, 1) := by decide +kernel
theorem dX5_perform_5 : decode cX5_perform 5 = .ok (.iload_n 1, 1) := by decide +kernel
theorem dX5_perform_6 : decode cX5_perform 6 = .ok (.bipush (-5), 2) := by decide +kernel
theorem dX5_perform_8 : decode cX5_perform 8 = .ok (.if_icmp .eq 8, 3) := by decide +kernel
theorem dX5_perform_11 : decode cX5_perform 11 = .ok (.bipush (-100), 2) := by decide +kernel
theorem dX5_perform_13 : decode cX5_perform 13 = .ok (.iload_n 1, 1) := by decide +kernel
theorem dX5_perform_14 : decode cX5_perform 14 = .ok (.isub, 1) := by decide +kernel
theorem dX5_perform_15 : decode cX5_perform 15 = .ok (.ireturn, 1) := by decide +kernel
theorem dX5_perform_16 : decode cX5_perform 16 = .ok (.aload_n 0, 1) := by decide +kernel
theorem dX5_perform_17 : decode cX5_perform 17 = .ok (.invokevirtual 48, 3) := by decide +kernel
theorem dX5_perform_20 : decode cX5_perform 20 = .ok (.aload_n 0, 1) := by decide +kernel
theorem dX5_perform_21 : decode cX5_perform 21 = .ok (.iconst 0, 1) := by decide +kernel
theorem dX5_perform_22 : decode cX5_perform 22 = .ok (.putfield 132, 3) := by decide +kernel
theorem dX5_perform_25 : decode cX5_perform 25 = .ok (.iconst 0, 1) := by decide +kernel
theorem dX5_perform_26 : decode cX5_perform 26 = .ok (.istore_n 2, 1) := by decide +kernel
theorem dX5_perform_27 : decode cX5_perform 27 = .ok (.aload_n 0, 1) := by decide +kernel
theorem dX5_perform_28 : decode cX5_perform 28 = .ok (.getfield 132, 3) := by decide +kernel
theorem dX5_perform_31 : decode cX5_perform 31 = .ok (.aload_n 0, 1) := by decide +kernel
theorem dX5_perform_32 : decode cX5_perform 32 = .ok (.getfield 129, 3) := by decide +kernel
theorem dX5_perform_35 : decode cX5_perform 35 = .ok (.if_icmp .ge 63, 3) := by decide +kernel
theorem dX5_perform_38 : decode cX5_perform 38 = .ok (.aload_n 0, 1) := by decide +kernel
theorem dX5_perform_39 : decode cX5_perform 39 = .ok (.invokevirtual 157, 3) := by decide +kernel
theorem dX5_perform_42 : decode cX5_perform 42 = .ok (.ifCond .eq 10, 3) := by decide +kernel
theorem dX5_perform_45 : decode cX5_perform 45 = .ok (.aload_n 0, 1) := by decide +kernel
theorem dX5_perform_46 : decode cX5_perform 46 = .ok (.invokevirtual 164, 3) := by decide +kernel
theorem dX5_perform_49 : decode cX5_perform 49 = .ok (.goto 5, 3) := by decide +kernel
theorem dX5_perform_52 : decode cX5_perform 52 = .ok (.bipush (-5), 2) := by decide +kernel
theorem dX5_perform_54 : decode cX5_perform 54 = .ok (.istore_n 3, 1) := by decide +kernel
theorem dX5_perform_55 : decode cX5_perform 55 = .ok (.iload_n 3, 1) := by decide +kernel
theorem dX5_perform_56 : decode cX5_perform 56 = .ok (.bipush (-4), 2) := by decide +kernel
theorem dX5_perform_58 : decode cX5_perform 58 = .ok (.iconst (-1), 1) := by decide +kernel
theorem dX5_perform_59 : decode cX5_perform 59 = .ok (.invokestatic 25, 3) := by decide +kernel
theorem dX5_perform_62 : decode cX5_perform 62 = .ok (.ifCond .eq 20, 3) := by decide +kernel
theorem dX5_perform_65 : decode cX5_perform 65 = .ok (.aload_n 0, 1) := by decide +kernel
theorem dX5_perform_66 : decode cX5_perform 66 = .ok (.invokevirtual 167, 3) := by decide +kernel
theorem dX5_perform_69 : decode cX5_perform 69 = .ok (.aload_n 0, 1) := by decide +kernel
theorem dX5_perform_70 : decode cX5_perform 70 = .ok (.iload_n 2, 1) := by decide +kernel
theorem dX5_perform_71 : decode cX5_perform 71 = .ok (.putfield 170, 3) := by decide +kernel
theorem dX5_perform_74 : decode cX5_perform 74 = .ok (.aload_n 0, 1) := by decide +kernel
theorem dX5_perform_75 : decode cX5_perform 75 = .ok (.iload_n 3, 1) := by decide +kernel
theorem dX5_perform_76 : decode cX5_perform 76 = .ok (.putfield 173, 3) := by decide +kernel
theorem dX5_perform_79 : decode cX5_perform 79 = .ok (.bipush (-4), 2) := by decide +kernel
theorem dX5_perform_81 : decode cX5_perform 81 = .ok (.ireturn, 1) := by decide +kernel
theorem dX5_perform_82 : decode cX5_perform 82 = .ok (.iinc 2 1, 3) := by decide +kernel
theorem dX5_perform_85 : decode cX5_perform 85 = .ok (.aload_n 0, 1) := by decide +kernel
theorem dX5_perform_86 : decode cX5_perform 86 = .ok (.dup, 1) := by decide +kernel
theorem dX5_perform_87 : decode cX5_perform 87 = .ok (.getfield 132, 3) := by decide +kernel
theorem dX5_perform_90 : decode cX5_perform 90 = .ok (.iconst 1, 1) := by decide +kernel
theorem dX5_perform_91 : decode cX5_perform 91 = .ok (.iadd, 1) := by decide +kernel
theorem dX5_perform_92 : decode cX5_perform 92 = .ok (.putfield 132, 3) := by decide +kernel
theorem dX5_perform_95 : decode cX5_perform 95 = .ok (.goto (-68), 3) := by decide +kernel
theorem dX5_perform_98 : decode cX5_perform 98 = .ok (.aload_n 0, 1) := by decide +kernel
theorem dX5_perform_99 : decode cX5_perform 99 = .ok (.invokevirtual 41, 3) := by decide +kernel
theorem dX5_perform_102 : decode cX5_perform 102 = .ok (.iload_n 2, 1) := by decide +kernel
theorem dX5_perform_103 : decode cX5_perform 103 = .ok (.ireturn, 1) := by decide +kernel
theorem dX5_stopped_0 : decode cX5_stopped 0 = .ok (.iload_n 1, 1) := by decide +kernel
theorem dX5_stopped_1 : decode cX5_stopped 1 = .ok (.iconst 0, 1) := by decide +kernel
theorem dX5_stopped_2 : decode cX5_stopped 2 = .ok (.iconst 1, 1) := by decide +kernel
theorem dX5_stopped_3 : decode cX5_stopped 3 = .ok (.invokestatic 25, 3) := by decide +kernel
theorem dX5_stopped_6 : decode cX5_stopped 6 = .ok (.ifCond .ne 6, 3) := by decide +kernel
theorem dX5_stopped_9 : decode cX5_stopped 9 = .ok (.bipush (-2), 2) := by decide +kernel
theorem dX5_stopped_11 : decode cX5_stopped 11 = .ok (.ireturn, 1) := by decide +kernel
theorem dX5_stopped_12 : decode cX5_stopped 12 = .ok (.aload_n 0, 1) := by decide +kernel
theorem dX5_stopped_13 : decode cX5_stopped 13 = .ok (.getfield 173, 3) := by decide +kernel
theorem dX5_stopped_16 : decode cX5_stopped 16 = .ok (.ifCond .ne 8, 3) := by decide +kernel
theorem dX5_stopped_19 : decode cX5_stopped 19 = .ok (.bipush (-5), 2) := by decide +kernel
theorem dX5_stopped_21 : decode cX5_stopped 21 = .ok (.goto 18, 3) := by decide +kernel
theorem dX5_stopped_24 : decode cX5_stopped 24 = .ok (.iload_n 1, 1) := by decide +kernel
theorem dX5_stopped_25 : decode cX5_stopped 25 = .ok (.ifCond .ne 10, 3) := by decide +kernel
theorem dX5_stopped_28 : decode cX5_stopped 28 = .ok (.aload_n 0, 1) := by decide +kernel
theorem dX5_stopped_29 : decode cX5_stopped 29 = .ok (.getfield 170, 3) := by decide +kernel
theorem dX5_stopped_32 : decode cX5_stopped 32 = .ok (.goto 7, 3) := by decide +kernel
theorem dX5_stopped_35 : decode cX5_stopped 35 = .ok (.aload_n 0, 1) := by decide +kernel
theorem dX5_stopped_36 : decode cX5_stopped 36 = .ok (.getfield 173, 3) := by decide +kernel
theorem dX5_stopped_39 : decode cX5_stopped 39 = .ok (.ireturn, 1) := by decide +kernel
theorem dX5_scarecrow_0 : decode cX5_scarecrow 0 = .ok (.aload_n 0, 1) := by decide +kernel
theorem dX5_scarecrow_1 : decode cX5_scarecrow 1 = .ok (.iload_n 1, 1) := by decide +kernel
theorem dX5_scarecrow_2 : decode cX5_scarecrow 2 = .ok (.invokevirtual 95, 3) := by decide +kernel
theorem dX5_scarecrow_5 : decode cX5_scarecrow 5 = .ok (.ifCond .ne 5, 3) := by decide +kernel
theorem dX5_scarecrow_8 : decode cX5_scarecrow 8 = .ok (.iconst (-1), 1) := by decide +kernel
theorem dX5_scarecrow_9 : decode cX5_scarecrow 9 = .ok (.ireturn, 1) := by decide +kernel
theorem dX5_scarecrow_10 : decode cX5_scarecrow 10 = .ok (.iload_n 2, 1) := by decide +kernel
theorem dX5_scarecrow_11 : decode cX5_scarecrow 11 = .ok (.iconst 0, 1) := by decide +kernel
theorem dX5_scarecrow_12 : decode cX5_scarecrow 12 = .ok (.bipush 10, 2) := by decide +kernel
theorem dX5_scarecrow_14 : decode cX5_scarecrow 14 = .ok (.invokestatic 25, 3) := by decide +kernel
theorem dX5_scarecrow_17 : decode cX5_scarecrow 17 = .ok (.ifCond .ne 6, 3) := by decide +kernel
theorem dX5_scarecrow_20 : decode cX5_scarecrow 20 = .ok (.bipush (-2), 2) := by decide +kernel
theorem dX5_scarecrow_22 : decode cX5_scarecrow 22 = .ok (.ireturn, 1) := by decide +kernel
theorem dX5_scarecrow_23 : decode cX5_scarecrow 23 = .ok (.iload_n 2, 1) := by decide +kernel
theorem dX5_scarecrow_24 : decode cX5_scarecrow 24 = .ok (.iconst 4, 1) := by decide +kernel
theorem dX5_scarecrow_25 : decode cX5_scarecrow 25 = .ok (.if_icmp .ne 11, 3) := by decide +kernel
theorem dX5_scarecrow_28 : decode cX5_scarecrow 28 = .ok (.aload_n 0, 1) := by decide +kernel
theorem dX5_scarecrow_29 : decode cX5_scarecrow 29 = .ok (.iload_n 1, 1) := by decide +kernel
theorem dX5_scarecrow_30 : decode cX5_scarecrow 30 = .ok (.invokevirtual 79, 3) := by decide +kernel
theorem dX5_scarecrow_33 : decode cX5_scarecrow 33 = .ok (.goto 9, 3) := by decide +kernel
theorem dX5_scarecrow_36 : decode cX5_scarecrow 36 = .ok (.aload_n 0, 1) := by decide +kernel
theorem dX5_scarecrow_37 : decode cX5_scarecrow 37 = .ok (.iload_n 1, 1) := by decide +kernel
theorem dX5_scarecrow_38 : decode cX5_scarecrow 38 = .ok (.iload_n 2, 1) := by decide +kernel
theorem dX5_scarecrow_39 : decode cX5_scarecrow 39 = .ok (.invokevirtual 29, 3) := by decide +kernel
theorem dX5_scarecrow_42 : decode cX5_scarecrow 42 = .ok (.ireturn, 1) := by decide +kernel
theorem dX5_straw_0 : decode cX5_straw 0 = .ok (.aload_n 0, 1) := by decide +kernel
theorem dX5_straw_1 : decode cX5_straw 1 = .ok (.iload_n 1, 1) := by decide +kernel
theorem dX5_straw_2 : decode cX5_straw 2 = .ok (.invokevirtual 95, 3) := by decide +kernel
theorem dX5_straw_5 : decode cX5_straw 5 = .ok (.ifCond .eq 17, 3) := by decide +kernel
theorem dX5_straw_8 : decode cX5_straw 8 = .ok (.aload_n 0, 1) := by decide +kernel
theorem dX5_straw_9 : decode cX5_straw 9 = .ok (.iload_n 1, 1) := by decide +kernel
theorem dX5_straw_10 : decode cX5_straw 10 = .ok (.iconst 4, 1) := by decide +kernel
theorem dX5_straw_11 : decode cX5_straw 11 = .ok (.invokevirtual 29, 3) := by decide +kernel
theorem dX5_straw_14 : decode cX5_straw 14 = .ok (.i2d, 1) := by decide +kernel
theorem dX5_straw_15 : decode cX5_straw 15 = .ok (.ldc2_w 176, 3) := by decide +kernel
theorem dX5_straw_18 : decode cX5_straw 18 = .ok (.ddiv, 1) := by decide +kernel
theorem dX5_straw_19 : decode cX5_straw 19 = .ok (.goto 6, 3) := by decide +kernel
theorem dX5_straw_22 : decode cX5_straw 22 = .ok (.ldc2_w 178, 3) := by decide +kernel
theorem dX5_straw_25 : decode cX5_straw 25 = .ok (.dreturn, 1) := by decide +kernel
theorem dX5_weight_0 : decode cX5_weight 0 = .ok (.iload_n 1, 1) := by decide +kernel
theorem dX5_weight_1 : decode cX5_weight 1 = .ok (.invokestatic 108, 3) := by decide +kernel
theorem dX5_weight_4 : decode cX5_weight 4 = .ok (.ifCond .eq 30, 3) := by decide +kernel
theorem dX5_weight_7 : decode cX5_weight 7 = .ok (.iload_n 2, 1) := by decide +kernel
theorem dX5_weight_8 : decode cX5_weight 8 = .ok (.invokestatic 98, 3) := by decide +kernel
theorem dX5_weight_11 : decode cX5_weight 11 = .ok (.ifCond .eq 23, 3) := by decide +kernel
theorem dX5_weight_14 : decode cX5_weight 14 = .ok (.aload_n 0, 1) := by decide +kernel
theorem dX5_weight_15 : decode cX5_weight 15 = .ok (.iload_n 1, 1) := by decide +kernel
theorem dX5_weight_16 : decode cX5_weight 16 = .ok (.iload_n 2, 1) := by decide +kernel
theorem dX5_weight_17 : decode cX5_weight 17 = .ok (.aload_n 0, 1) := by decide +kernel
theorem dX5_weight_18 : decode cX5_weight 18 = .ok (.getfield 7, 3) := by decide +kernel
theorem dX5_weight_21 : decode cX5_weight 21 = .ok (.iconst 1, 1) := by decide +kernel
theorem dX5_weight_22 : decode cX5_weight 22 = .ok (.iaload, 1) := by decide +kernel
theorem dX5_weight_23 : decode cX5_weight 23 = .ok (.invokevirtual 51, 3) := by decide +kernel
theorem dX5_weight_26 : decode cX5_weight 26 = .ok (.i2d, 1) := by decide +kernel
theorem dX5_weight_27 : decode cX5_weight 27 = .ok (.ldc2_w 176, 3) := by decide +kernel
theorem dX5_weight_30 : decode cX5_weight 30 = .ok (.ddiv, 1) := by decide +kernel
theorem dX5_weight_31 : decode cX5_weight 31 = .ok (.goto 6, 3) := by decide +kernel
theorem dX5_weight_34 : decode cX5_weight 34 = .ok (.ldc2_w 178, 3) := by decide +kernel
theorem dX5_weight_37 : decode cX5_weight 37 = .ok (.dreturn, 1) := by decide +kernel
theorem dX5_standing_0 : decode cX5_standing 0 = .ok (.iconst 0, 1) := by decide +kernel
theorem dX5_standing_1 : decode cX5_standing 1 = .ok (.istore_n 2, 1) := by decide +kernel
theorem dX5_standing_2 : decode cX5_standing 2 = .ok (.iconst 0, 1) := by decide +kernel
theorem dX5_standing_3 : decode cX5_standing 3 = .ok (.istore_n 3, 1) := by decide +kernel
theorem dX5_standing_4 : decode cX5_standing 4 = .ok (.iload_n 3, 1) := by decide +kernel
theorem dX5_standing_5 : decode cX5_standing 5 = .ok (.aload_n 0, 1) := by decide +kernel
theorem dX5_standing_6 : decode cX5_standing 6 = .ok (.getfield 7, 3) := by decide +kernel
theorem dX5_standing_9 : decode cX5_standing 9 = .ok (.bipush 10, 2) := by decide +kernel
theorem dX5_standing_11 : decode cX5_standing 11 = .ok (.iaload, 1) := by decide +kernel
theorem dX5_standing_12 : decode cX5_standing 12 = .ok (.if_icmp .ge 29, 3) := by decide +kernel
theorem dX5_standing_15 : decode cX5_standing 15 = .ok (.iload_n 2, 1) := by decide +kernel
theorem dX5_standing_16 : decode cX5_standing 16 = .ok (.aload_n 0, 1) := by decide +kernel
theorem dX5_standing_17 : decode cX5_standing 17 = .ok (.iload_n 3, 1) := by decide +kernel
theorem dX5_standing_18 : decode cX5_standing 18 = .ok (.iconst 0, 1) := by decide +kernel
theorem dX5_standing_19 : decode cX5_standing 19 = .ok (.invokevirtual 29, 3) := by decide +kernel
theorem dX5_standing_22 : decode cX5_standing 22 = .ok (.iload_n 1, 1) := by decide +kernel
theorem dX5_standing_23 : decode cX5_standing 23 = .ok (.if_icmp .ne 9, 3) := by decide +kernel
theorem dX5_standing_26 : decode cX5_standing 26 = .ok (.iconst 1, 1) := by decide +kernel
theorem dX5_standing_27 : decode cX5_standing 27 = .ok (.iload_n 3, 1) := by decide +kernel
theorem dX5_standing_28 : decode cX5_standing 28 = .ok (.ishl, 1) := by decide +kernel
theorem dX5_standing_29 : decode cX5_standing 29 = .ok (.goto 4, 3) := by decide +kernel
theorem dX5_standing_32 : decode cX5_standing 32 = .ok (.iconst 0, 1) := by decide +kernel
theorem dX5_standing_33 : decode cX5_standing 33 = .ok (.ior, 1) := by decide +kernel
theorem dX5_standing_34 : decode cX5_standing 34 = .ok (.istore_n 2, 1) := by decide +kernel
theorem dX5_standing_35 : decode cX5_standing 35 = .ok (.iinc 3 1, 3) := by decide +kernel
theorem dX5_standing_38 : decode cX5_standing 38 = .ok (.goto (-34), 3) := by decide +kernel
theorem dX5_standing_41 : decode cX5_standing 41 = .ok (.iload_n 2, 1) := by decide +kernel
theorem dX5_standing_42 : decode cX5_standing 42 = .ok (.ireturn, 1) := by decide +kernel
theorem dX5_field_0 : decode cX5_field 0 = .ok (.iload_n 1, 1) := by decide +kernel
theorem dX5_field_1 : decode cX5_field 1 = .ok (.invokestatic 108, 3) := by decide +kernel
theorem dX5_field_4 : decode cX5_field 4 = .ok (.ifCond .ne 5, 3) := by decide +kernel
theorem dX5_field_7 : decode cX5_field 7 = .ok (.iconst (-1), 1) := by decide +kernel
theorem dX5_field_8 : decode cX5_field 8 = .ok (.ireturn, 1) := by decide +kernel
theorem dX5_field_9 : decode cX5_field 9 = .ok (.iload_n 2, 1) := by decide +kernel
theorem dX5_field_10 : decode cX5_field 10 = .ok (.tableswitch 64 0 3 #[30, 40, 46, 58], 30) := by decide +kernel
theorem dX5_field_40 : decode cX5_field 40 = .ok (.aload_n 0, 1) := by decide +kernel
theorem dX5_field_41 : decode cX5_field 41 = .ok (.getfield 7, 3) := by decide +kernel
theorem dX5_field_44 : decode cX5_field 44 = .ok (.bipush 11, 2) := by decide +kernel
theorem dX5_field_46 : decode cX5_field 46 = .ok (.iload_n 1, 1) := by decide +kernel
theorem dX5_field_47 : decode cX5_field 47 = .ok (.iadd, 1) := by decide +kernel
theorem dX5_field_48 : decode cX5_field 48 = .ok (.iaload, 1) := by decide +kernel
theorem dX5_field_49 : decode cX5_field 49 = .ok (.ireturn, 1) := by decide +kernel
theorem dX5_field_50 : decode cX5_field 50 = .ok (.aload_n 0, 1) := by decide +kernel
theorem dX5_field_51 : decode cX5_field 51 = .ok (.iload_n 1, 1) := by decide +kernel
theorem dX5_field_52 : decode cX5_field 52 = .ok (.invokevirtual 180, 3) := by decide +kernel
theorem dX5_field_55 : decode cX5_field 55 = .ok (.ireturn, 1) := by decide +kernel
theorem dX5_field_56 : decode cX5_field 56 = .ok (.aload_n 0, 1) := by decide +kernel
theorem dX5_field_57 : decode cX5_field 57 = .ok (.iload_n 1, 1) := by decide +kernel
theorem dX5_field_58 : decode cX5_field 58 = .ok (.aload_n 0, 1) := by decide +kernel
theorem dX5_field_59 : decode cX5_field 59 = .ok (.getfield 7, 3) := by decide +kernel
theorem dX5_field_62 : decode cX5_field 62 = .ok (.iconst 1, 1) := by decide +kernel
theorem dX5_field_63 : decode cX5_field 63 = .ok (.iaload, 1) := by decide +kernel
theorem dX5_field_64 : decode cX5_field 64 = .ok (.invokevirtual 68, 3) := by decide +kernel
theorem dX5_field_67 : decode cX5_field 67 = .ok (.ireturn, 1) := by decide +kernel
theorem dX5_field_68 : decode cX5_field 68 = .ok (.aload_n 0, 1) := by decide +kernel
theorem dX5_field_69 : decode cX5_field 69 = .ok (.iload_n 1, 1) := by decide +kernel
theorem dX5_field_70 : decode cX5_field 70 = .ok (.invokevirtual 61, 3) := by decide +kernel
theorem dX5_field_73 : decode cX5_field 73 = .ok (.ireturn, 1) := by decide +kernel
theorem dX5_field_74 : decode cX5_field 74 = .ok (.bipush (-2), 2) := by decide +kernel
theorem dX5_field_76 : decode cX5_field 76 = .ok (.ireturn, 1) := by decide +kernel
theorem dX5_reason_0 : decode cX5_reason 0 = .ok (.iload_n 1, 1) := by decide +kernel
theorem dX5_reason_1 : decode cX5_reason 1 = .ok (.invokestatic 108, 3) := by decide +kernel
theorem dX5_reason_4 : decode cX5_reason 4 = .ok (.ifCond .ne 5, 3) := by decide +kernel
theorem dX5_reason_7 : decode cX5_reason 7 = .ok (.iconst (-1), 1) := by decide +kernel
theorem dX5_reason_8 : decode cX5_reason 8 = .ok (.ireturn, 1) := by decide +kernel
theorem dX5_reason_9 : decode cX5_reason 9 = .ok (.aload_n 0, 1) := by decide +kernel
theorem dX5_reason_10 : decode cX5_reason 10 = .ok (.iload_n 1, 1) := by decide +kernel
theorem dX5_reason_11 : decode cX5_reason 11 = .ok (.invokevirtual 180, 3) := by decide +kernel
theorem dX5_reason_14 : decode cX5_reason 14 = .ok (.ifCond .ne 5, 3) := by decide +kernel
theorem dX5_reason_17 : decode cX5_reason 17 = .ok (.iconst 3, 1) := by decide +kernel
theorem dX5_reason_18 : decode cX5_reason 18 = .ok (.ireturn, 1) := by decide +kernel
theorem dX5_reason_19 : decode cX5_reason 19 = .ok (.aload_n 0, 1) := by decide +kernel
theorem dX5_reason_20 : decode cX5_reason 20 = .ok (.iload_n 1, 1) := by decide +kernel
theorem dX5_reason_21 : decode cX5_reason 21 = .ok (.aload_n 0, 1) := by decide +kernel
theorem dX5_reason_22 : decode cX5_reason 22 = .ok (.getfield 7, 3) := by decide +kernel
theorem dX5_reason_25 : decode cX5_reason 25 = .ok (.iconst 1, 1) := by decide +kernel
theorem dX5_reason_26 : decode cX5_reason 26 = .ok (.iaload, 1) := by decide +kernel
theorem dX5_reason_27 : decode cX5_reason 27 = .ok (.invokevirtual 58, 3) := by decide +kernel
theorem dX5_reason_30 : decode cX5_reason 30 = .ok (.istore_n 2, 1) := by decide +kernel
theorem dX5_reason_31 : decode cX5_reason 31 = .ok (.iload_n 2, 1) := by decide +kernel
theorem dX5_reason_32 : decode cX5_reason 32 = .ok (.ifCond .ne 5, 3) := by decide +kernel
theorem dX5_reason_35 : decode cX5_reason 35 = .ok (.iconst 4, 1) := by decide +kernel
theorem dX5_reason_36 : decode cX5_reason 36 = .ok (.ireturn, 1) := by decide +kernel
theorem dX5_reason_37 : decode cX5_reason 37 = .ok (.iload_n 2, 1) := by decide +kernel
theorem dX5_reason_38 : decode cX5_reason 38 = .ok (.iload_n 2, 1) := by decide +kernel
theorem dX5_reason_39 : decode cX5_reason 39 = .ok (.iconst 1, 1) := by decide +kernel
theorem dX5_reason_40 : decode cX5_reason 40 = .ok (.isub, 1) := by decide +kernel
theorem dX5_reason_41 : decode cX5_reason 41 = .ok (.iand, 1) := by decide +kernel
theorem dX5_reason_42 : decode cX5_reason 42 = .ok (.ifCond .ne 7, 3) := by decide +kernel
theorem dX5_reason_45 : decode cX5_reason 45 = .ok (.iconst 1, 1) := by decide +kernel
theorem dX5_reason_46 : decode cX5_reason 46 = .ok (.goto 4, 3) := by decide +kernel
theorem dX5_reason_49 : decode cX5_reason 49 = .ok (.iconst 0, 1) := by decide +kernel
theorem dX5_reason_50 : decode cX5_reason 50 = .ok (.istore_n 3, 1) := by decide +kernel
theorem dX5_reason_51 : decode cX5_reason 51 = .ok (.iload_n 3, 1) := by decide +kernel
theorem dX5_reason_52 : decode cX5_reason 52 = .ok (.ifCond .eq 7, 3) := by decide +kernel
theorem dX5_reason_55 : decode cX5_reason 55 = .ok (.iconst 0, 1) := by decide +kernel
theorem dX5_reason_56 : decode cX5_reason 56 = .ok (.goto 26, 3) := by decide +kernel
theorem dX5_reason_59 : decode cX5_reason 59 = .ok (.iload_n 2, 1) := by decide +kernel
theorem dX5_reason_60 : decode cX5_reason 60 = .ok (.aload_n 0, 1) := by decide +kernel
theorem dX5_reason_61 : decode cX5_reason 61 = .ok (.aload_n 0, 1) := by decide +kernel
theorem dX5_reason_62 : decode cX5_reason 62 = .ok (.iload_n 1, 1) := by decide +kernel
theorem dX5_reason_63 : decode cX5_reason 63 = .ok (.invokevirtual 61, 3) := by decide +kernel
theorem dX5_reason_66 : decode cX5_reason 66 = .ok (.iconst 3, 1) := by decide +kernel
theorem dX5_reason_67 : decode cX5_reason 67 = .ok (.invokevirtual 29, 3) := by decide +kernel
theorem dX5_reason_70 : decode cX5_reason 70 = .ok (.ishr, 1) := by decide +kernel
theorem dX5_reason_71 : decode cX5_reason 71 = .ok (.iconst 1, 1) := by decide +kernel
theorem dX5_reason_72 : decode cX5_reason 72 = .ok (.iand, 1) := by decide +kernel
theorem dX5_reason_73 : decode cX5_reason 73 = .ok (.iconst 1, 1) := by decide +kernel
theorem dX5_reason_74 : decode cX5_reason 74 = .ok (.if_icmp .ne 7, 3) := by decide +kernel
theorem dX5_reason_77 : decode cX5_reason 77 = .ok (.iconst 1, 1) := by decide +kernel
theorem dX5_reason_78 : decode cX5_reason 78 = .ok (.goto 4, 3) := by decide +kernel
theorem dX5_reason_81 : decode cX5_reason 81 = .ok (.iconst 2, 1) := by decide +kernel
theorem dX5_reason_82 : decode cX5_reason 82 = .ok (.ireturn, 1) := by decide +kernel
theorem dX5_decision_0 : decode cX5_decision 0 = .ok (.iload_n 1, 1) := by decide +kernel
theorem dX5_decision_1 : decode cX5_decision 1 = .ok (.iconst 0, 1) := by decide +kernel
theorem dX5_decision_2 : decode cX5_decision 2 = .ok (.iconst 1, 1) := by decide +kernel
theorem dX5_decision_3 : decode cX5_decision 3 = .ok (.invokestatic 25, 3) := by decide +kernel
theorem dX5_decision_6 : decode cX5_decision 6 = .ok (.ifCond .eq 16, 3) := by decide +kernel
theorem dX5_decision_9 : decode cX5_decision 9 = .ok (.aload_n 0, 1) := by decide +kernel
theorem dX5_decision_10 : decode cX5_decision 10 = .ok (.aload_n 0, 1) := by decide +kernel
theorem dX5_decision_11 : decode cX5_decision 11 = .ok (.getfield 7, 3) := by decide +kernel
theorem dX5_decision_14 : decode cX5_decision 14 = .ok (.iconst 1, 1) := by decide +kernel
theorem dX5_decision_15 : decode cX5_decision 15 = .ok (.iaload, 1) := by decide +kernel
theorem dX5_decision_16 : decode cX5_decision 16 = .ok (.invokevirtual 101, 3) := by decide +kernel
theorem dX5_decision_19 : decode cX5_decision 19 = .ok (.goto 5, 3) := by decide +kernel
theorem dX5_decision_22 : decode cX5_decision 22 = .ok (.bipush (-2), 2) := by decide +kernel
theorem dX5_decision_24 : decode cX5_decision 24 = .ok (.ireturn, 1) := by decide +kernel
theorem dX5_swingsWith_0 : decode cX5_swingsWith 0 = .ok (.aload_n 0, 1) := by decide +kernel
theorem dX5_swingsWith_1 : decode cX5_swingsWith 1 = .ok (.iload_n 1, 1) := by decide +kernel
theorem dX5_swingsWith_2 : decode cX5_swingsWith 2 = .ok (.iconst 3, 1) := by decide +kernel
theorem dX5_swingsWith_3 : decode cX5_swingsWith 3 = .ok (.invokevirtual 29, 3) := by decide +kernel
theorem dX5_swingsWith_6 : decode cX5_swingsWith 6 = .ok (.istore_n 3, 1) := by decide +kernel
theorem dX5_swingsWith_7 : decode cX5_swingsWith 7 = .ok (.iconst 0, 1) := by decide +kernel
theorem dX5_swingsWith_8 : decode cX5_swingsWith 8 = .ok (.istore 4, 2) := by decide +kernel
theorem dX5_swingsWith_10 : decode cX5_swingsWith 10 = .ok (.iconst 0, 1) := by decide +kernel
theorem dX5_swingsWith_11 : decode cX5_swingsWith 11 = .ok (.istore 5, 2) := by decide +kernel
theorem dX5_swingsWith_13 : decode cX5_swingsWith 13 = .ok (.iload 5, 2) := by decide +kernel
theorem dX5_swingsWith_15 : decode cX5_swingsWith 15 = .ok (.iconst 4, 1) := by decide +kernel
theorem dX5_swingsWith_16 : decode cX5_swingsWith 16 = .ok (.if_icmp .ge 43, 3) := by decide +kernel
theorem dX5_swingsWith_19 : decode cX5_swingsWith 19 = .ok (.aload_n 0, 1) := by decide +kernel
theorem dX5_swingsWith_20 : decode cX5_swingsWith 20 = .ok (.iload_n 1, 1) := by decide +kernel
theorem dX5_swingsWith_21 : decode cX5_swingsWith 21 = .ok (.iconst 3, 1) := by decide +kernel
theorem dX5_swingsWith_22 : decode cX5_swingsWith 22 = .ok (.iload 5, 2) := by decide +kernel
theorem dX5_swingsWith_24 : decode cX5_swingsWith 24 = .ok (.invokevirtual 75, 3) := by decide +kernel
theorem dX5_swingsWith_27 : decode cX5_swingsWith 27 = .ok (.iload 4, 2) := by decide +kernel
theorem dX5_swingsWith_29 : decode cX5_swingsWith 29 = .ok (.ifCond .ne 17, 3) := by decide +kernel
theorem dX5_swingsWith_32 : decode cX5_swingsWith 32 = .ok (.aload_n 0, 1) := by decide +kernel
theorem dX5_swingsWith_33 : decode cX5_swingsWith 33 = .ok (.aload_n 0, 1) := by decide +kernel
theorem dX5_swingsWith_34 : decode cX5_swingsWith 34 = .ok (.getfield 7, 3) := by decide +kernel
theorem dX5_swingsWith_37 : decode cX5_swingsWith 37 = .ok (.iconst 1, 1) := by decide +kernel
theorem dX5_swingsWith_38 : decode cX5_swingsWith 38 = .ok (.iaload, 1) := by decide +kernel
theorem dX5_swingsWith_39 : decode cX5_swingsWith 39 = .ok (.invokevirtual 101, 3) := by decide +kernel
theorem dX5_swingsWith_42 : decode cX5_swingsWith 42 = .ok (.iload_n 2, 1) := by decide +kernel
theorem dX5_swingsWith_43 : decode cX5_swingsWith 43 = .ok (.if_icmp .eq 7, 3) := by decide +kernel
theorem dX5_swingsWith_46 : decode cX5_swingsWith 46 = .ok (.iconst 1, 1) := by decide +kernel
theorem dX5_swingsWith_47 : decode cX5_swingsWith 47 = .ok (.goto 4, 3) := by decide +kernel
theorem dX5_swingsWith_50 : decode cX5_swingsWith 50 = .ok (.iconst 0, 1) := by decide +kernel
theorem dX5_swingsWith_51 : decode cX5_swingsWith 51 = .ok (.istore 4, 2) := by decide +kernel
theorem dX5_swingsWith_53 : decode cX5_swingsWith 53 = .ok (.iinc 5 1, 3) := by decide +kernel
theorem dX5_swingsWith_56 : decode cX5_swingsWith 56 = .ok (.goto (-43), 3) := by decide +kernel
theorem dX5_swingsWith_59 : decode cX5_swingsWith 59 = .ok (.aload_n 0, 1) := by decide +kernel
theorem dX5_swingsWith_60 : decode cX5_swingsWith 60 = .ok (.iload_n 1, 1) := by decide +kernel
theorem dX5_swingsWith_61 : decode cX5_swingsWith 61 = .ok (.iconst 3, 1) := by decide +kernel
theorem dX5_swingsWith_62 : decode cX5_swingsWith 62 = .ok (.iload_n 3, 1) := by decide +kernel
theorem dX5_swingsWith_63 : decode cX5_swingsWith 63 = .ok (.invokevirtual 75, 3) := by decide +kernel
theorem dX5_swingsWith_66 : decode cX5_swingsWith 66 = .ok (.iload 4, 2) := by decide +kernel
theorem dX5_swingsWith_68 : decode cX5_swingsWith 68 = .ok (.ireturn, 1) := by decide +kernel
theorem dX5_swings_0 : decode cX5_swings 0 = .ok (.aload_n 0, 1) := by decide +kernel
theorem dX5_swings_1 : decode cX5_swings 1 = .ok (.aload_n 0, 1) := by decide +kernel
theorem dX5_swings_2 : decode cX5_swings 2 = .ok (.getfield 7, 3) := by decide +kernel
theorem dX5_swings_5 : decode cX5_swings 5 = .ok (.iconst 1, 1) := by decide +kernel
theorem dX5_swings_6 : decode cX5_swings 6 = .ok (.iaload, 1) := by decide +kernel
theorem dX5_swings_7 : decode cX5_swings 7 = .ok (.invokevirtual 101, 3) := by decide +kernel
theorem dX5_swings_10 : decode cX5_swings 10 = .ok (.istore_n 1, 1) := by decide +kernel
theorem dX5_swings_11 : decode cX5_swings 11 = .ok (.iconst 0, 1) := by decide +kernel
theorem dX5_swings_12 : decode cX5_swings 12 = .ok (.istore_n 2, 1) := by decide +kernel
theorem dX5_swings_13 : decode cX5_swings 13 = .ok (.iconst 0, 1) := by decide +kernel
theorem dX5_swings_14 : decode cX5_swings 14 = .ok (.istore_n 3, 1) := by decide +kernel
theorem dX5_swings_15 : decode cX5_swings 15 = .ok (.iload_n 3, 1) := by decide +kernel
theorem dX5_swings_16 : decode cX5_swings 16 = .ok (.aload_n 0, 1) := by decide +kernel
theorem dX5_swings_17 : decode cX5_swings 17 = .ok (.getfield 7, 3) := by decide +kernel
theorem dX5_swings_20 : decode cX5_swings 20 = .ok (.bipush 10, 2) := by decide +kernel
theorem dX5_swings_22 : decode cX5_swings 22 = .ok (.iaload, 1) := by decide +kernel
theorem dX5_swings_23 : decode cX5_swings 23 = .ok (.if_icmp .ge 28, 3) := by decide +kernel
theorem dX5_swings_26 : decode cX5_swings 26 = .ok (.iload_n 2, 1) := by decide +kernel
theorem dX5_swings_27 : decode cX5_swings 27 = .ok (.aload_n 0, 1) := by decide +kernel
theorem dX5_swings_28 : decode cX5_swings 28 = .ok (.iload_n 3, 1) := by decide +kernel
theorem dX5_swings_29 : decode cX5_swings 29 = .ok (.iload_n 1, 1) := by decide +kernel
theorem dX5_swings_30 : decode cX5_swings 30 = .ok (.invokevirtual 183, 3) := by decide +kernel
theorem dX5_swings_33 : decode cX5_swings 33 = .ok (.ifCond .eq 9, 3) := by decide +kernel
theorem dX5_swings_36 : decode cX5_swings 36 = .ok (.iconst 1, 1) := by decide +kernel
theorem dX5_swings_37 : decode cX5_swings 37 = .ok (.iload_n 3, 1) := by decide +kernel
theorem dX5_swings_38 : decode cX5_swings 38 = .ok (.ishl, 1) := by decide +kernel
theorem dX5_swings_39 : decode cX5_swings 39 = .ok (.goto 4, 3) := by decide +kernel
theorem dX5_swings_42 : decode cX5_swings 42 = .ok (.iconst 0, 1) := by decide +kernel
theorem dX5_swings_43 : decode cX5_swings 43 = .ok (.ior, 1) := by decide +kernel
theorem dX5_swings_44 : decode cX5_swings 44 = .ok (.istore_n 2, 1) := by decide +kernel
theorem dX5_swings_45 : decode cX5_swings 45 = .ok (.iinc 3 1, 3) := by decide +kernel
theorem dX5_swings_48 : decode cX5_swings 48 = .ok (.goto (-33), 3) := by decide +kernel
theorem dX5_swings_51 : decode cX5_swings 51 = .ok (.iload_n 2, 1) := by decide +kernel
theorem dX5_swings_52 : decode cX5_swings 52 = .ok (.ireturn, 1) := by decide +kernel
theorem dX5_withoutCrows_0 : decode cX5_withoutCrows 0 = .ok (.aload_n 0, 1) := by decide +kernel
theorem dX5_withoutCrows_1 : decode cX5_withoutCrows 1 = .ok (.iconst 0, 1) := by decide +kernel
theorem dX5_withoutCrows_2 : decode cX5_withoutCrows 2 = .ok (.invokevirtual 101, 3) := by decide +kernel
theorem dX5_withoutCrows_5 : decode cX5_withoutCrows 5 = .ok (.ireturn, 1) := by decide +kernel
theorem dX5_turnsIn_0 : decode cX5_turnsIn 0 = .ok (.aload_n 0, 1) := by decide +kernel
theorem dX5_turnsIn_1 : decode cX5_turnsIn 1 = .ok (.iload_n 1, 1) := by decide +kernel
theorem dX5_turnsIn_2 : decode cX5_turnsIn 2 = .ok (.invokevirtual 95, 3) := by decide +kernel
theorem dX5_turnsIn_5 : decode cX5_turnsIn 5 = .ok (.ifCond .ne 5, 3) := by decide +kernel
theorem dX5_turnsIn_8 : decode cX5_turnsIn 8 = .ok (.iconst (-1), 1) := by decide +kernel
theorem dX5_turnsIn_9 : decode cX5_turnsIn 9 = .ok (.ireturn, 1) := by decide +kernel
theorem dX5_turnsIn_10 : decode cX5_turnsIn 10 = .ok (.aload_n 0, 1) := by decide +kernel
theorem dX5_turnsIn_11 : decode cX5_turnsIn 11 = .ok (.invokevirtual 48, 3) := by decide +kernel
theorem dX5_turnsIn_14 : decode cX5_turnsIn 14 = .ok (.aload_n 0, 1) := by decide +kernel
theorem dX5_turnsIn_15 : decode cX5_turnsIn 15 = .ok (.iload_n 1, 1) := by decide +kernel
theorem dX5_turnsIn_16 : decode cX5_turnsIn 16 = .ok (.bipush 9, 2) := by decide +kernel
theorem dX5_turnsIn_18 : decode cX5_turnsIn 18 = .ok (.invokevirtual 29, 3) := by decide +kernel
theorem dX5_turnsIn_21 : decode cX5_turnsIn 21 = .ok (.istore_n 2, 1) := by decide +kernel
theorem dX5_turnsIn_22 : decode cX5_turnsIn 22 = .ok (.iconst 0, 1) := by decide +kernel
theorem dX5_turnsIn_23 : decode cX5_turnsIn 23 = .ok (.istore_n 3, 1) := by decide +kernel
theorem dX5_turnsIn_24 : decode cX5_turnsIn 24 = .ok (.iload_n 3, 1) := by decide +kernel
theorem dX5_turnsIn_25 : decode cX5_turnsIn 25 = .ok (.sipush 300, 3) := by decide +kernel
theorem dX5_turnsIn_28 : decode cX5_turnsIn 28 = .ok (.if_icmp .ge 32, 3) := by decide +kernel
theorem dX5_turnsIn_31 : decode cX5_turnsIn 31 = .ok (.aload_n 0, 1) := by decide +kernel
theorem dX5_turnsIn_32 : decode cX5_turnsIn 32 = .ok (.iload_n 1, 1) := by decide +kernel
theorem dX5_turnsIn_33 : decode cX5_turnsIn 33 = .ok (.bipush 9, 2) := by decide +kernel
theorem dX5_turnsIn_35 : decode cX5_turnsIn 35 = .ok (.invokevirtual 29, 3) := by decide +kernel
theorem dX5_turnsIn_38 : decode cX5_turnsIn 38 = .ok (.iload_n 2, 1) := by decide +kernel
theorem dX5_turnsIn_39 : decode cX5_turnsIn 39 = .ok (.if_icmp .ne 21, 3) := by decide +kernel
theorem dX5_turnsIn_42 : decode cX5_turnsIn 42 = .ok (.iload_n 3, 1) := by decide +kernel
theorem dX5_turnsIn_43 : decode cX5_turnsIn 43 = .ok (.aload_n 0, 1) := by decide +kernel
theorem dX5_turnsIn_44 : decode cX5_turnsIn 44 = .ok (.invokevirtual 92, 3) := by decide +kernel
theorem dX5_turnsIn_47 : decode cX5_turnsIn 47 = .ok (.ifCond .ge 7, 3) := by decide +kernel
theorem dX5_turnsIn_50 : decode cX5_turnsIn 50 = .ok (.iconst 0, 1) := by decide +kernel
theorem dX5_turnsIn_51 : decode cX5_turnsIn 51 = .ok (.goto 4, 3) := by decide +kernel
theorem dX5_turnsIn_54 : decode cX5_turnsIn 54 = .ok (.iconst 1, 1) := by decide +kernel
theorem dX5_turnsIn_55 : decode cX5_turnsIn 55 = .ok (.iadd, 1) := by decide +kernel
theorem dX5_turnsIn_56 : decode cX5_turnsIn 56 = .ok (.istore_n 3, 1) := by decide +kernel
theorem dX5_turnsIn_57 : decode cX5_turnsIn 57 = .ok (.goto (-33), 3) := by decide +kernel
theorem dX5_turnsIn_60 : decode cX5_turnsIn 60 = .ok (.aload_n 0, 1) := by decide +kernel
theorem dX5_turnsIn_61 : decode cX5_turnsIn 61 = .ok (.iload_n 1, 1) := by decide +kernel
theorem dX5_turnsIn_62 : decode cX5_turnsIn 62 = .ok (.bipush 9, 2) := by decide +kernel
theorem dX5_turnsIn_64 : decode cX5_turnsIn 64 = .ok (.invokevirtual 29, 3) := by decide +kernel
theorem dX5_turnsIn_67 : decode cX5_turnsIn 67 = .ok (.iload_n 2, 1) := by decide +kernel
theorem dX5_turnsIn_68 : decode cX5_turnsIn 68 = .ok (.if_icmp .le 7, 3) := by decide +kernel
theorem dX5_turnsIn_71 : decode cX5_turnsIn 71 = .ok (.iconst 1, 1) := by decide +kernel
theorem dX5_turnsIn_72 : decode cX5_turnsIn 72 = .ok (.goto 4, 3) := by decide +kernel
theorem dX5_turnsIn_75 : decode cX5_turnsIn 75 = .ok (.iconst 0, 1) := by decide +kernel
theorem dX5_turnsIn_76 : decode cX5_turnsIn 76 = .ok (.istore 4, 2) := by decide +kernel
theorem dX5_turnsIn_78 : decode cX5_turnsIn 78 = .ok (.aload_n 0, 1) := by decide +kernel
theorem dX5_turnsIn_79 : decode cX5_turnsIn 79 = .ok (.invokevirtual 167, 3) := by decide +kernel
theorem dX5_turnsIn_82 : decode cX5_turnsIn 82 = .ok (.iload 4, 2) := by decide +kernel
theorem dX5_turnsIn_84 : decode cX5_turnsIn 84 = .ok (.ifCond .eq 7, 3) := by decide +kernel
theorem dX5_turnsIn_87 : decode cX5_turnsIn 87 = .ok (.iload_n 3, 1) := by decide +kernel
theorem dX5_turnsIn_88 : decode cX5_turnsIn 88 = .ok (.goto 5, 3) := by decide +kernel
theorem dX5_turnsIn_91 : decode cX5_turnsIn 91 = .ok (.bipush (-5), 2) := by decide +kernel
theorem dX5_turnsIn_93 : decode cX5_turnsIn 93 = .ok (.ireturn, 1) := by decide +kernel
theorem dX5_ifTicks_0 : decode cX5_ifTicks 0 = .ok (.iload_n 1, 1) := by decide +kernel
theorem dX5_ifTicks_1 : decode cX5_ifTicks 1 = .ok (.iconst 1, 1) := by decide +kernel
theorem dX5_ifTicks_2 : decode cX5_ifTicks 2 = .ok (.sipush 300, 3) := by decide +kernel
theorem dX5_ifTicks_5 : decode cX5_ifTicks 5 = .ok (.invokestatic 25, 3) := by decide +kernel
theorem dX5_ifTicks_8 : decode cX5_ifTicks 8 = .ok (.ifCond .eq 12, 3) := by decide +kernel
theorem dX5_ifTicks_11 : decode cX5_ifTicks 11 = .ok (.iload_n 2, 1) := by decide +kernel
theorem dX5_ifTicks_12 : decode cX5_ifTicks 12 = .ok (.iconst 0, 1) := by decide +kernel
theorem dX5_ifTicks_13 : decode cX5_ifTicks 13 = .ok (.iconst 2, 1) := by decide +kernel
theorem dX5_ifTicks_14 : decode cX5_ifTicks 14 = .ok (.invokestatic 25, 3) := by decide +kernel
theorem dX5_ifTicks_17 : decode cX5_ifTicks 17 = .ok (.ifCond .ne 6, 3) := by decide +kernel
theorem dX5_ifTicks_20 : decode cX5_ifTicks 20 = .ok (.bipush (-2), 2) := by decide +kernel
theorem dX5_ifTicks_22 : decode cX5_ifTicks 22 = .ok (.ireturn, 1) := by decide +kernel
theorem dX5_ifTicks_23 : decode cX5_ifTicks 23 = .ok (.aload_n 0, 1) := by decide +kernel
theorem dX5_ifTicks_24 : decode cX5_ifTicks 24 = .ok (.invokevirtual 48, 3) := by decide +kernel
theorem dX5_ifTicks_27 : decode cX5_ifTicks 27 = .ok (.aload_n 0, 1) := by decide +kernel
theorem dX5_ifTicks_28 : decode cX5_ifTicks 28 = .ok (.getfield 7, 3) := by decide +kernel
theorem dX5_ifTicks_31 : decode cX5_ifTicks 31 = .ok (.bipush 6, 2) := by decide +kernel
theorem dX5_ifTicks_33 : decode cX5_ifTicks 33 = .ok (.iaload, 1) := by decide +kernel
theorem dX5_ifTicks_34 : decode cX5_ifTicks 34 = .ok (.istore_n 3, 1) := by decide +kernel
theorem dX5_ifTicks_35 : decode cX5_ifTicks 35 = .ok (.aload_n 0, 1) := by decide +kernel
theorem dX5_ifTicks_36 : decode cX5_ifTicks 36 = .ok (.iload_n 1, 1) := by decide +kernel
theorem dX5_ifTicks_37 : decode cX5_ifTicks 37 = .ok (.invokevirtual 105, 3) := by decide +kernel
theorem dX5_ifTicks_40 : decode cX5_ifTicks 40 = .ok (.istore 4, 2) := by decide +kernel
theorem dX5_ifTicks_42 : decode cX5_ifTicks 42 = .ok (.iload_n 2, 1) := by decide +kernel
theorem dX5_ifTicks_43 : decode cX5_ifTicks 43 = .ok (.ifCond .ne 16, 3) := by decide +kernel
theorem dX5_ifTicks_46 : decode cX5_ifTicks 46 = .ok (.aload_n 0, 1) := by decide +kernel
theorem dX5_ifTicks_47 : decode cX5_ifTicks 47 = .ok (.aload_n 0, 1) := by decide +kernel
theorem dX5_ifTicks_48 : decode cX5_ifTicks 48 = .ok (.getfield 7, 3) := by decide +kernel
theorem dX5_ifTicks_51 : decode cX5_ifTicks 51 = .ok (.iconst 1, 1) := by decide +kernel
theorem dX5_ifTicks_52 : decode cX5_ifTicks 52 = .ok (.iaload, 1) := by decide +kernel
theorem dX5_ifTicks_53 : decode cX5_ifTicks 53 = .ok (.invokevirtual 101, 3) := by decide +kernel
theorem dX5_ifTicks_56 : decode cX5_ifTicks 56 = .ok (.goto 22, 3) := by decide +kernel
theorem dX5_ifTicks_59 : decode cX5_ifTicks 59 = .ok (.iload_n 2, 1) := by decide +kernel
theorem dX5_ifTicks_60 : decode cX5_ifTicks 60 = .ok (.iconst 1, 1) := by decide +kernel
theorem dX5_ifTicks_61 : decode cX5_ifTicks 61 = .ok (.if_icmp .ne 8, 3) := by decide +kernel
theorem dX5_ifTicks_64 : decode cX5_ifTicks 64 = .ok (.iload 4, 2) := by decide +kernel
theorem dX5_ifTicks_66 : decode cX5_ifTicks 66 = .ok (.goto 12, 3) := by decide +kernel
theorem dX5_ifTicks_69 : decode cX5_ifTicks 69 = .ok (.aload_n 0, 1) := by decide +kernel
theorem dX5_ifTicks_70 : decode cX5_ifTicks 70 = .ok (.getfield 7, 3) := by decide +kernel
theorem dX5_ifTicks_73 : decode cX5_ifTicks 73 = .ok (.bipush 6, 2) := by decide +kernel
theorem dX5_ifTicks_75 : decode cX5_ifTicks 75 = .ok (.iaload, 1) := by decide +kernel
theorem dX5_ifTicks_76 : decode cX5_ifTicks 76 = .ok (.iload_n 3, 1) := by decide +kernel
theorem dX5_ifTicks_77 : decode cX5_ifTicks 77 = .ok (.isub, 1) := by decide +kernel
theorem dX5_ifTicks_78 : decode cX5_ifTicks 78 = .ok (.istore 5, 2) := by decide +kernel
theorem dX5_ifTicks_80 : decode cX5_ifTicks 80 = .ok (.aload_n 0, 1) := by decide +kernel
theorem dX5_ifTicks_81 : decode cX5_ifTicks 81 = .ok (.invokevirtual 167, 3) := by decide +kernel
theorem dX5_ifTicks_84 : decode cX5_ifTicks 84 = .ok (.iload 5, 2) := by decide +kernel
theorem dX5_ifTicks_86 : decode cX5_ifTicks 86 = .ok (.ireturn, 1) := by decide +kernel
theorem dX5_sumOf_0 : decode cX5_sumOf 0 = .ok (.iconst 0, 1) := by decide +kernel
theorem dX5_sumOf_1 : decode cX5_sumOf 1 = .ok (.istore_n 2, 1) := by decide +kernel
theorem dX5_sumOf_2 : decode cX5_sumOf 2 = .ok (.iconst 0, 1) := by decide +kernel
theorem dX5_sumOf_3 : decode cX5_sumOf 3 = .ok (.istore_n 3, 1) := by decide +kernel
theorem dX5_sumOf_4 : decode cX5_sumOf 4 = .ok (.iload_n 3, 1) := by decide +kernel
theorem dX5_sumOf_5 : decode cX5_sumOf 5 = .ok (.aload_n 0, 1) := by decide +kernel
theorem dX5_sumOf_6 : decode cX5_sumOf 6 = .ok (.getfield 7, 3) := by decide +kernel
theorem dX5_sumOf_9 : decode cX5_sumOf 9 = .ok (.bipush 10, 2) := by decide +kernel
theorem dX5_sumOf_11 : decode cX5_sumOf 11 = .ok (.iaload, 1) := by decide +kernel
theorem dX5_sumOf_12 : decode cX5_sumOf 12 = .ok (.if_icmp .ge 31, 3) := by decide +kernel
theorem dX5_sumOf_15 : decode cX5_sumOf 15 = .ok (.iload_n 2, 1) := by decide +kernel
theorem dX5_sumOf_16 : decode cX5_sumOf 16 = .ok (.iload_n 1, 1) := by decide +kernel
theorem dX5_sumOf_17 : decode cX5_sumOf 17 = .ok (.iconst 5, 1) := by decide +kernel
theorem dX5_sumOf_18 : decode cX5_sumOf 18 = .ok (.if_icmp .ne 11, 3) := by decide +kernel
theorem dX5_sumOf_21 : decode cX5_sumOf 21 = .ok (.aload_n 0, 1) := by decide +kernel
theorem dX5_sumOf_22 : decode cX5_sumOf 22 = .ok (.iload_n 3, 1) := by decide +kernel
theorem dX5_sumOf_23 : decode cX5_sumOf 23 = .ok (.invokevirtual 79, 3) := by decide +kernel
theorem dX5_sumOf_26 : decode cX5_sumOf 26 = .ok (.goto 9, 3) := by decide +kernel
theorem dX5_sumOf_29 : decode cX5_sumOf 29 = .ok (.aload_n 0, 1) := by decide +kernel
theorem dX5_sumOf_30 : decode cX5_sumOf 30 = .ok (.iload_n 3, 1) := by decide +kernel
theorem dX5_sumOf_31 : decode cX5_sumOf 31 = .ok (.iload_n 1, 1) := by decide +kernel
theorem dX5_sumOf_32 : decode cX5_sumOf 32 = .ok (.invokevirtual 29, 3) := by decide +kernel
theorem dX5_sumOf_35 : decode cX5_sumOf 35 = .ok (.iadd, 1) := by decide +kernel
theorem dX5_sumOf_36 : decode cX5_sumOf 36 = .ok (.istore_n 2, 1) := by decide +kernel
theorem dX5_sumOf_37 : decode cX5_sumOf 37 = .ok (.iinc 3 1, 3) := by decide +kernel
theorem dX5_sumOf_40 : decode cX5_sumOf 40 = .ok (.goto (-36), 3) := by decide +kernel
theorem dX5_sumOf_43 : decode cX5_sumOf 43 = .ok (.iload_n 2, 1) := by decide +kernel
theorem dX5_sumOf_44 : decode cX5_sumOf 44 = .ok (.ireturn, 1) := by decide +kernel
theorem dX5_count_0 : decode cX5_count 0 = .ok (.iload_n 1, 1) := by decide +kernel
theorem dX5_count_1 : decode cX5_count 1 = .ok (.tableswitch 157 0 15 #[79, 86, 94, 100, 100, 100, 111, 117, 117, 117, 117, 130, 135, 135, 147, 152], 79) := by decide +kernel
theorem dX5_count_80 : decode cX5_count 80 = .ok (.aload_n 0, 1) := by decide +kernel
theorem dX5_count_81 : decode cX5_count 81 = .ok (.getfield 7, 3) := by decide +kernel
theorem dX5_count_84 : decode cX5_count 84 = .ok (.iconst 2, 1) := by decide +kernel
theorem dX5_count_85 : decode cX5_count 85 = .ok (.iaload, 1) := by decide +kernel
theorem dX5_count_86 : decode cX5_count 86 = .ok (.ireturn, 1) := by decide +kernel
theorem dX5_count_87 : decode cX5_count 87 = .ok (.aload_n 0, 1) := by decide +kernel
theorem dX5_count_88 : decode cX5_count 88 = .ok (.getfield 7, 3) := by decide +kernel
theorem dX5_count_91 : decode cX5_count 91 = .ok (.bipush 10, 2) := by decide +kernel
theorem dX5_count_93 : decode cX5_count 93 = .ok (.iaload, 1) := by decide +kernel
theorem dX5_count_94 : decode cX5_count 94 = .ok (.ireturn, 1) := by decide +kernel
theorem dX5_count_95 : decode cX5_count 95 = .ok (.aload_n 0, 1) := by decide +kernel
theorem dX5_count_96 : decode cX5_count 96 = .ok (.iconst 5, 1) := by decide +kernel
theorem dX5_count_97 : decode cX5_count 97 = .ok (.invokevirtual 187, 3) := by decide +kernel
theorem dX5_count_100 : decode cX5_count 100 = .ok (.ireturn, 1) := by decide +kernel
theorem dX5_count_101 : decode cX5_count 101 = .ok (.aload_n 0, 1) := by decide +kernel
theorem dX5_count_102 : decode cX5_count 102 = .ok (.getfield 7, 3) := by decide +kernel
theorem dX5_count_105 : decode cX5_count 105 = .ok (.iconst 3, 1) := by decide +kernel
theorem dX5_count_106 : decode cX5_count 106 = .ok (.iload_n 1, 1) := by decide +kernel
theorem dX5_count_107 : decode cX5_count 107 = .ok (.iadd, 1) := by decide +kernel
theorem dX5_count_108 : decode cX5_count 108 = .ok (.iconst 3, 1) := by decide +kernel
theorem dX5_count_109 : decode cX5_count 109 = .ok (.isub, 1) := by decide +kernel
theorem dX5_count_110 : decode cX5_count 110 = .ok (.iaload, 1) := by decide +kernel
theorem dX5_count_111 : decode cX5_count 111 = .ok (.ireturn, 1) := by decide +kernel
theorem dX5_count_112 : decode cX5_count 112 = .ok (.aload_n 0, 1) := by decide +kernel
theorem dX5_count_113 : decode cX5_count 113 = .ok (.iconst 4, 1) := by decide +kernel
theorem dX5_count_114 : decode cX5_count 114 = .ok (.invokevirtual 187, 3) := by decide +kernel
theorem dX5_count_117 : decode cX5_count 117 = .ok (.ireturn, 1) := by decide +kernel
theorem dX5_count_118 : decode cX5_count 118 = .ok (.aload_n 0, 1) := by decide +kernel
theorem dX5_count_119 : decode cX5_count 119 = .ok (.getfield 7, 3) := by decide +kernel
theorem dX5_count_122 : decode cX5_count 122 = .ok (.bipush 6, 2) := by decide +kernel
theorem dX5_count_124 : decode cX5_count 124 = .ok (.iload_n 1, 1) := by decide +kernel
theorem dX5_count_125 : decode cX5_count 125 = .ok (.iadd, 1) := by decide +kernel
theorem dX5_count_126 : decode cX5_count 126 = .ok (.bipush 7, 2) := by decide +kernel
theorem dX5_count_128 : decode cX5_count 128 = .ok (.isub, 1) := by decide +kernel
theorem dX5_count_129 : decode cX5_count 129 = .ok (.iaload, 1) := by decide +kernel
theorem dX5_count_130 : decode cX5_count 130 = .ok (.ireturn, 1) := by decide +kernel
theorem dX5_count_131 : decode cX5_count 131 = .ok (.aload_n 0, 1) := by decide +kernel
theorem dX5_count_132 : decode cX5_count 132 = .ok (.invokevirtual 71, 3) := by decide +kernel
theorem dX5_count_135 : decode cX5_count 135 = .ok (.ireturn, 1) := by decide +kernel
theorem dX5_count_136 : decode cX5_count 136 = .ok (.aload_n 0, 1) := by decide +kernel
theorem dX5_count_137 : decode cX5_count 137 = .ok (.getfield 7, 3) := by decide +kernel
theorem dX5_count_140 : decode cX5_count 140 = .ok (.iconst 0, 1) := by decide +kernel
theorem dX5_count_141 : decode cX5_count 141 = .ok (.iload_n 1, 1) := by decide +kernel
theorem dX5_count_142 : decode cX5_count 142 = .ok (.iadd, 1) := by decide +kernel
theorem dX5_count_143 : decode cX5_count 143 = .ok (.bipush 12, 2) := by decide +kernel
theorem dX5_count_145 : decode cX5_count 145 = .ok (.isub, 1) := by decide +kernel
theorem dX5_count_146 : decode cX5_count 146 = .ok (.iaload, 1) := by decide +kernel
theorem dX5_count_147 : decode cX5_count 147 = .ok (.ireturn, 1) := by decide +kernel
theorem dX5_count_148 : decode cX5_count 148 = .ok (.aload_n 0, 1) := by decide +kernel
theorem dX5_count_149 : decode cX5_count 149 = .ok (.getfield 33, 3) := by decide +kernel
theorem dX5_count_152 : decode cX5_count 152 = .ok (.ireturn, 1) := by decide +kernel
theorem dX5_count_153 : decode cX5_count 153 = .ok (.aload_n 0, 1) := by decide +kernel
theorem dX5_count_154 : decode cX5_count 154 = .ok (.getfield 129, 3) := by decide +kernel
theorem dX5_count_157 : decode cX5_count 157 = .ok (.ireturn, 1) := by decide +kernel
theorem dX5_count_158 : decode cX5_count 158 = .ok (.bipush (-2), 2) := by decide +kernel
theorem dX5_count_160 : decode cX5_count 160 = .ok (.ireturn, 1) := by decide +kernel
theorem dJ9_min_7cf53_0 : decode cJ9_min_7cf53 0 = .ok (.iload_n 0, 1) := by decide +kernel
theorem dJ9_min_7cf53_1 : decode cJ9_min_7cf53 1 = .ok (.iload_n 1, 1) := by decide +kernel
theorem dJ9_min_7cf53_2 : decode cJ9_min_7cf53 2 = .ok (.if_icmp .gt 7, 3) := by decide +kernel
theorem dJ9_min_7cf53_5 : decode cJ9_min_7cf53 5 = .ok (.iload_n 0, 1) := by decide +kernel
theorem dJ9_min_7cf53_6 : decode cJ9_min_7cf53 6 = .ok (.goto 4, 3) := by decide +kernel
theorem dJ9_min_7cf53_9 : decode cJ9_min_7cf53 9 = .ok (.iload_n 1, 1) := by decide +kernel
theorem dJ9_min_7cf53_10 : decode cJ9_min_7cf53 10 = .ok (.ireturn, 1) := by decide +kernel
theorem dL_law_0 : decode cL_law 0 = .ok (.new 7, 3) := by decide +kernel
theorem dL_law_3 : decode cL_law 3 = .ok (.dup, 1) := by decide +kernel
theorem dL_law_4 : decode cL_law 4 = .ok (.invokespecial 9, 3) := by decide +kernel
theorem dL_law_7 : decode cL_law 7 = .ok (.astore_n 1, 1) := by decide +kernel
theorem dL_law_8 : decode cL_law 8 = .ok (.new 10, 3) := by decide +kernel
theorem dL_law_11 : decode cL_law 11 = .ok (.dup, 1) := by decide +kernel
theorem dL_law_12 : decode cL_law 12 = .ok (.invokespecial 12, 3) := by decide +kernel
theorem dL_law_15 : decode cL_law 15 = .ok (.astore_n 2, 1) := by decide +kernel
theorem dL_law_16 : decode cL_law 16 = .ok (.iconst 0, 1) := by decide +kernel
theorem dL_law_17 : decode cL_law 17 = .ok (.istore_n 3, 1) := by decide +kernel
theorem dL_law_18 : decode cL_law 18 = .ok (.iload_n 3, 1) := by decide +kernel
theorem dL_law_19 : decode cL_law 19 = .ok (.aload_n 0, 1) := by decide +kernel
theorem dL_law_20 : decode cL_law 20 = .ok (.arraylength, 1) := by decide +kernel
theorem dL_law_21 : decode cL_law 21 = .ok (.iconst 5, 1) := by decide +kernel
theorem dL_law_22 : decode cL_law 22 = .ok (.isub, 1) := by decide +kernel
theorem dL_law_23 : decode cL_law 23 = .ok (.if_icmp .gt 932, 3) := by decide +kernel
theorem dL_law_26 : decode cL_law 26 = .ok (.aload_n 0, 1) := by decide +kernel
theorem dL_law_27 : decode cL_law 27 = .ok (.iload_n 3, 1) := by decide +kernel
theorem dL_law_28 : decode cL_law 28 = .ok (.iaload, 1) := by decide +kernel
theorem dL_law_29 : decode cL_law 29 = .ok (.bipush 31, 2) := by decide +kernel
theorem dL_law_31 : decode cL_law 31 = .ok (.iand, 1) := by decide +kernel
theorem dL_law_32 : decode cL_law 32 = .ok (.tableswitch 917 0 28 #[132, 185, 218, 251, 284, 307, 340, 373, 406, 439, 452, 475, 500, 513, 526, 549, 562, 575, 588, 621, 672, 733, 766, 789, 812, 825, 838, 861, 894], 132) := by decide +kernel
theorem dL_law_164 : decode cL_law 164 = .ok (.aload_n 1, 1) := by decide +kernel
theorem dL_law_165 : decode cL_law 165 = .ok (.aload_n 0, 1) := by decide +kernel
theorem dL_law_166 : decode cL_law 166 = .ok (.iload_n 3, 1) := by decide +kernel
theorem dL_law_167 : decode cL_law 167 = .ok (.iconst 1, 1) := by decide +kernel
theorem dL_law_168 : decode cL_law 168 = .ok (.iadd, 1) := by decide +kernel
theorem dL_law_169 : decode cL_law 169 = .ok (.iaload, 1) := by decide +kernel
theorem dL_law_170 : decode cL_law 170 = .ok (.aload_n 0, 1) := by decide +kernel
theorem dL_law_171 : decode cL_law 171 = .ok (.iload_n 3, 1) := by decide +kernel
theorem dL_law_172 : decode cL_law 172 = .ok (.iconst 2, 1) := by decide +kernel
theorem dL_law_173 : decode cL_law 173 = .ok (.iadd, 1) := by decide +kernel
theorem dL_law_174 : decode cL_law 174 = .ok (.iaload, 1) := by decide +kernel
theorem dL_law_175 : decode cL_law 175 = .ok (.aload_n 0, 1) := by decide +kernel
theorem dL_law_176 : decode cL_law 176 = .ok (.iload_n 3, 1) := by decide +kernel
theorem dL_law_177 : decode cL_law 177 = .ok (.iconst 3, 1) := by decide +kernel
theorem dL_law_178 : decode cL_law 178 = .ok (.iadd, 1) := by decide +kernel
theorem dL_law_179 : decode cL_law 179 = .ok (.iaload, 1) := by decide +kernel
theorem dL_law_180 : decode cL_law 180 = .ok (.aload_n 0, 1) := by decide +kernel
theorem dL_law_181 : decode cL_law 181 = .ok (.iload_n 3, 1) := by decide +kernel
theorem dL_law_182 : decode cL_law 182 = .ok (.iconst 4, 1) := by decide +kernel
theorem dL_law_183 : decode cL_law 183 = .ok (.iadd, 1) := by decide +kernel
theorem dL_law_184 : decode cL_law 184 = .ok (.iaload, 1) := by decide +kernel
theorem dL_law_185 : decode cL_law 185 = .ok (.invokevirtual 13, 3) := by decide +kernel
theorem dL_law_188 : decode cL_law 188 = .ok (.aload_n 2, 1) := by decide +kernel
theorem dL_law_189 : decode cL_law 189 = .ok (.aload_n 0, 1) := by decide +kernel
theorem dL_law_190 : decode cL_law 190 = .ok (.iload_n 3, 1) := by decide +kernel
theorem dL_law_191 : decode cL_law 191 = .ok (.iconst 1, 1) := by decide +kernel
theorem dL_law_192 : decode cL_law 192 = .ok (.iadd, 1) := by decide +kernel
theorem dL_law_193 : decode cL_law 193 = .ok (.iaload, 1) := by decide +kernel
theorem dL_law_194 : decode cL_law 194 = .ok (.aload_n 0, 1) := by decide +kernel
theorem dL_law_195 : decode cL_law 195 = .ok (.iload_n 3, 1) := by decide +kernel
theorem dL_law_196 : decode cL_law 196 = .ok (.iconst 2, 1) := by decide +kernel
theorem dL_law_197 : decode cL_law 197 = .ok (.iadd, 1) := by decide +kernel
theorem dL_law_198 : decode cL_law 198 = .ok (.iaload, 1) := by decide +kernel
theorem dL_law_199 : decode cL_law 199 = .ok (.aload_n 0, 1) := by decide +kernel
theorem dL_law_200 : decode cL_law 200 = .ok (.iload_n 3, 1) := by decide +kernel
theorem dL_law_201 : decode cL_law 201 = .ok (.iconst 3, 1) := by decide +kernel
theorem dL_law_202 : decode cL_law 202 = .ok (.iadd, 1) := by decide +kernel
theorem dL_law_203 : decode cL_law 203 = .ok (.iaload, 1) := by decide +kernel
theorem dL_law_204 : decode cL_law 204 = .ok (.aload_n 0, 1) := by decide +kernel
theorem dL_law_205 : decode cL_law 205 = .ok (.iload_n 3, 1) := by decide +kernel
theorem dL_law_206 : decode cL_law 206 = .ok (.iconst 4, 1) := by decide +kernel
theorem dL_law_207 : decode cL_law 207 = .ok (.iadd, 1) := by decide +kernel
theorem dL_law_208 : decode cL_law 208 = .ok (.iaload, 1) := by decide +kernel
theorem dL_law_209 : decode cL_law 209 = .ok (.invokevirtual 17, 3) := by decide +kernel
theorem dL_law_212 : decode cL_law 212 = .ok (.if_icmp .eq 737, 3) := by decide +kernel
theorem dL_law_215 : decode cL_law 215 = .ok (.iconst 0, 1) := by decide +kernel
theorem dL_law_216 : decode cL_law 216 = .ok (.ireturn, 1) := by decide +kernel
theorem dL_law_217 : decode cL_law 217 = .ok (.aload_n 1, 1) := by decide +kernel
theorem dL_law_218 : decode cL_law 218 = .ok (.aload_n 0, 1) := by decide +kernel
theorem dL_law_219 : decode cL_law 219 = .ok (.iload_n 3, 1) := by decide +kernel
theorem dL_law_220 : decode cL_law 220 = .ok (.iconst 1, 1) := by decide +kernel
theorem dL_law_221 : decode cL_law 221 = .ok (.iadd, 1) := by decide +kernel
theorem dL_law_222 : decode cL_law 222 = .ok (.iaload, 1) := by decide +kernel
theorem dL_law_223 : decode cL_law 223 = .ok (.aload_n 0, 1) := by decide +kernel
theorem dL_law_224 : decode cL_law 224 = .ok (.iload_n 3, 1) := by decide +kernel
theorem dL_law_225 : decode cL_law 225 = .ok (.iconst 2, 1) := by decide +kernel
theorem dL_law_226 : decode cL_law 226 = .ok (.iadd, 1) := by decide +kernel
theorem dL_law_227 : decode cL_law 227 = .ok (.iaload, 1) := by decide +kernel
theorem dL_law_228 : decode cL_law 228 = .ok (.invokevirtual 18, 3) := by decide +kernel
theorem dL_law_231 : decode cL_law 231 = .ok (.aload_n 2, 1) := by decide +kernel
theorem dL_law_232 : decode cL_law 232 = .ok (.aload_n 0, 1) := by decide +kernel
theorem dL_law_233 : decode cL_law 233 = .ok (.iload_n 3, 1) := by decide +kernel
theorem dL_law_234 : decode cL_law 234 = .ok (.iconst 1, 1) := by decide +kernel
theorem dL_law_235 : decode cL_law 235 = .ok (.iadd, 1) := by decide +kernel
theorem dL_law_236 : decode cL_law 236 = .ok (.iaload, 1) := by decide +kernel
theorem dL_law_237 : decode cL_law 237 = .ok (.aload_n 0, 1) := by decide +kernel
theorem dL_law_238 : decode cL_law 238 = .ok (.iload_n 3, 1) := by decide +kernel
theorem dL_law_239 : decode cL_law 239 = .ok (.iconst 2, 1) := by decide +kernel
theorem dL_law_240 : decode cL_law 240 = .ok (.iadd, 1) := by decide +kernel
theorem dL_law_241 : decode cL_law 241 = .ok (.iaload, 1) := by decide +kernel
theorem dL_law_242 : decode cL_law 242 = .ok (.invokevirtual 22, 3) := by decide +kernel
theorem dL_law_245 : decode cL_law 245 = .ok (.if_icmp .eq 704, 3) := by decide +kernel
theorem dL_law_248 : decode cL_law 248 = .ok (.iconst 0, 1) := by decide +kernel
theorem dL_law_249 : decode cL_law 249 = .ok (.ireturn, 1) := by decide +kernel
theorem dL_law_250 : decode cL_law 250 = .ok (.aload_n 1, 1) := by decide +kernel
theorem dL_law_251 : decode cL_law 251 = .ok (.aload_n 0, 1) := by decide +kernel
theorem dL_law_252 : decode cL_law 252 = .ok (.iload_n 3, 1) := by decide +kernel
theorem dL_law_253 : decode cL_law 253 = .ok (.iconst 1, 1) := by decide +kernel
theorem dL_law_254 : decode cL_law 254 = .ok (.iadd, 1) := by decide +kernel
theorem dL_law_255 : decode cL_law 255 = .ok (.iaload, 1) := by decide +kernel
theorem dL_law_256 : decode cL_law 256 = .ok (.aload_n 0, 1) := by decide +kernel
theorem dL_law_257 : decode cL_law 257 = .ok (.iload_n 3, 1) := by decide +kernel
theorem dL_law_258 : decode cL_law 258 = .ok (.iconst 2, 1) := by decide +kernel
theorem dL_law_259 : decode cL_law 259 = .ok (.iadd, 1) := by decide +kernel
theorem dL_law_260 : decode cL_law 260 = .ok (.iaload, 1) := by decide +kernel
theorem dL_law_261 : decode cL_law 261 = .ok (.invokevirtual 23, 3) := by decide +kernel
theorem dL_law_264 : decode cL_law 264 = .ok (.aload_n 2, 1) := by decide +kernel
theorem dL_law_265 : decode cL_law 265 = .ok (.aload_n 0, 1) := by decide +kernel
theorem dL_law_266 : decode cL_law 266 = .ok (.iload_n 3, 1) := by decide +kernel
theorem dL_law_267 : decode cL_law 267 = .ok (.iconst 1, 1) := by decide +kernel
theorem dL_law_268 : decode cL_law 268 = .ok (.iadd, 1) := by decide +kernel
theorem dL_law_269 : decode cL_law 269 = .ok (.iaload, 1) := by decide +kernel
theorem dL_law_270 : decode cL_law 270 = .ok (.aload_n 0, 1) := by decide +kernel
theorem dL_law_271 : decode cL_law 271 = .ok (.iload_n 3, 1) := by decide +kernel
theorem dL_law_272 : decode cL_law 272 = .ok (.iconst 2, 1) := by decide +kernel
theorem dL_law_273 : decode cL_law 273 = .ok (.iadd, 1) := by decide +kernel
theorem dL_law_274 : decode cL_law 274 = .ok (.iaload, 1) := by decide +kernel
theorem dL_law_275 : decode cL_law 275 = .ok (.invokevirtual 26, 3) := by decide +kernel
theorem dL_law_278 : decode cL_law 278 = .ok (.if_icmp .eq 671, 3) := by decide +kernel
theorem dL_law_281 : decode cL_law 281 = .ok (.iconst 0, 1) := by decide +kernel
theorem dL_law_282 : decode cL_law 282 = .ok (.ireturn, 1) := by decide +kernel
theorem dL_law_283 : decode cL_law 283 = .ok (.aload_n 1, 1) := by decide +kernel
theorem dL_law_284 : decode cL_law 284 = .ok (.aload_n 0, 1) := by decide +kernel
theorem dL_law_285 : decode cL_law 285 = .ok (.iload_n 3, 1) := by decide +kernel
theorem dL_law_286 : decode cL_law 286 = .ok (.iconst 1, 1) := by decide +kernel
theorem dL_law_287 : decode cL_law 287 = .ok (.iadd, 1) := by decide +kernel
theorem dL_law_288 : decode cL_law 288 = .ok (.iaload, 1) := by decide +kernel
theorem dL_law_289 : decode cL_law 289 = .ok (.aload_n 0, 1) := by decide +kernel
theorem dL_law_290 : decode cL_law 290 = .ok (.iload_n 3, 1) := by decide +kernel
theorem dL_law_291 : decode cL_law 291 = .ok (.iconst 2, 1) := by decide +kernel
theorem dL_law_292 : decode cL_law 292 = .ok (.iadd, 1) := by decide +kernel
theorem dL_law_293 : decode cL_law 293 = .ok (.iaload, 1) := by decide +kernel
theorem dL_law_294 : decode cL_law 294 = .ok (.invokevirtual 27, 3) := by decide +kernel
theorem dL_law_297 : decode cL_law 297 = .ok (.aload_n 2, 1) := by decide +kernel
theorem dL_law_298 : decode cL_law 298 = .ok (.aload_n 0, 1) := by decide +kernel
theorem dL_law_299 : decode cL_law 299 = .ok (.iload_n 3, 1) := by decide +kernel
theorem dL_law_300 : decode cL_law 300 = .ok (.iconst 1, 1) := by decide +kernel
theorem dL_law_301 : decode cL_law 301 = .ok (.iadd, 1) := by decide +kernel
theorem dL_law_302 : decode cL_law 302 = .ok (.iaload, 1) := by decide +kernel
theorem dL_law_303 : decode cL_law 303 = .ok (.aload_n 0, 1) := by decide +kernel
theorem dL_law_304 : decode cL_law 304 = .ok (.iload_n 3, 1) := by decide +kernel
theorem dL_law_305 : decode cL_law 305 = .ok (.iconst 2, 1) := by decide +kernel
theorem dL_law_306 : decode cL_law 306 = .ok (.iadd, 1) := by decide +kernel
theorem dL_law_307 : decode cL_law 307 = .ok (.iaload, 1) := by decide +kernel
theorem dL_law_308 : decode cL_law 308 = .ok (.invokevirtual 30, 3) := by decide +kernel
theorem dL_law_311 : decode cL_law 311 = .ok (.if_icmp .eq 638, 3) := by decide +kernel
theorem dL_law_314 : decode cL_law 314 = .ok (.iconst 0, 1) := by decide +kernel
theorem dL_law_315 : decode cL_law 315 = .ok (.ireturn, 1) := by decide +kernel
theorem dL_law_316 : decode cL_law 316 = .ok (.aload_n 1, 1) := by decide +kernel
theorem dL_law_317 : decode cL_law 317 = .ok (.aload_n 0, 1) := by decide +kernel
theorem dL_law_318 : decode cL_law 318 = .ok (.iload_n 3, 1) := by decide +kernel
theorem dL_law_319 : decode cL_law 319 = .ok (.iconst 1, 1) := by decide +kernel
theorem dL_law_320 : decode cL_law 320 = .ok (.iadd, 1) := by decide +kernel
theorem dL_law_321 : decode cL_law 321 = .ok (.iaload, 1) := by decide +kernel
theorem dL_law_322 : decode cL_law 322 = .ok (.invokevirtual 31, 3) := by decide +kernel
theorem dL_law_325 : decode cL_law 325 = .ok (.aload_n 2, 1) := by decide +kernel
theorem dL_law_326 : decode cL_law 326 = .ok (.aload_n 0, 1) := by decide +kernel
theorem dL_law_327 : decode cL_law 327 = .ok (.iload_n 3, 1) := by decide +kernel
theorem dL_law_328 : decode cL_law 328 = .ok (.iconst 1, 1) := by decide +kernel
theorem dL_law_329 : decode cL_law 329 = .ok (.iadd, 1) := by decide +kernel
theorem dL_law_330 : decode cL_law 330 = .ok (.iaload, 1) := by decide +kernel
theorem dL_law_331 : decode cL_law 331 = .ok (.invokevirtual 35, 3) := by decide +kernel
theorem dL_law_334 : decode cL_law 334 = .ok (.if_icmp .eq 615, 3) := by decide +kernel
theorem dL_law_337 : decode cL_law 337 = .ok (.iconst 0, 1) := by decide +kernel
theorem dL_law_338 : decode cL_law 338 = .ok (.ireturn, 1) := by decide +kernel
theorem dL_law_339 : decode cL_law 339 = .ok (.aload_n 1, 1) := by decide +kernel
theorem dL_law_340 : decode cL_law 340 = .ok (.aload_n 0, 1) := by decide +kernel
theorem dL_law_341 : decode cL_law 341 = .ok (.iload_n 3, 1) := by decide +kernel
theorem dL_law_342 : decode cL_law 342 = .ok (.iconst 1, 1) := by decide +kernel
theorem dL_law_343 : decode cL_law 343 = .ok (.iadd, 1) := by decide +kernel
theorem dL_law_344 : decode cL_law 344 = .ok (.iaload, 1) := by decide +kernel
theorem dL_law_345 : decode cL_law 345 = .ok (.aload_n 0, 1) := by decide +kernel
theorem dL_law_346 : decode cL_law 346 = .ok (.iload_n 3, 1) := by decide +kernel
theorem dL_law_347 : decode cL_law 347 = .ok (.iconst 2, 1) := by decide +kernel
theorem dL_law_348 : decode cL_law 348 = .ok (.iadd, 1) := by decide +kernel
theorem dL_law_349 : decode cL_law 349 = .ok (.iaload, 1) := by decide +kernel
theorem dL_law_350 : decode cL_law 350 = .ok (.invokevirtual 36, 3) := by decide +kernel
theorem dL_law_353 : decode cL_law 353 = .ok (.aload_n 2, 1) := by decide +kernel
theorem dL_law_354 : decode cL_law 354 = .ok (.aload_n 0, 1) := by decide +kernel
theorem dL_law_355 : decode cL_law 355 = .ok (.iload_n 3, 1) := by decide +kernel
theorem dL_law_356 : decode cL_law 356 = .ok (.iconst 1, 1) := by decide +kernel
theorem dL_law_357 : decode cL_law 357 = .ok (.iadd, 1) := by decide +kernel
theorem dL_law_358 : decode cL_law 358 = .ok (.iaload, 1) := by decide +kernel
theorem dL_law_359 : decode cL_law 359 = .ok (.aload_n 0, 1) := by decide +kernel
theorem dL_law_360 : decode cL_law 360 = .ok (.iload_n 3, 1) := by decide +kernel
theorem dL_law_361 : decode cL_law 361 = .ok (.iconst 2, 1) := by decide +kernel
theorem dL_law_362 : decode cL_law 362 = .ok (.iadd, 1) := by decide +kernel
theorem dL_law_363 : decode cL_law 363 = .ok (.iaload, 1) := by decide +kernel
theorem dL_law_364 : decode cL_law 364 = .ok (.invokevirtual 39, 3) := by decide +kernel
theorem dL_law_367 : decode cL_law 367 = .ok (.if_icmp .eq 582, 3) := by decide +kernel
theorem dL_law_370 : decode cL_law 370 = .ok (.iconst 0, 1) := by decide +kernel
theorem dL_law_371 : decode cL_law 371 = .ok (.ireturn, 1) := by decide +kernel
theorem dL_law_372 : decode cL_law 372 = .ok (.aload_n 1, 1) := by decide +kernel
theorem dL_law_373 : decode cL_law 373 = .ok (.aload_n 0, 1) := by decide +kernel
theorem dL_law_374 : decode cL_law 374 = .ok (.iload_n 3, 1) := by decide +kernel
theorem dL_law_375 : decode cL_law 375 = .ok (.iconst 1, 1) := by decide +kernel
theorem dL_law_376 : decode cL_law 376 = .ok (.iadd, 1) := by decide +kernel
theorem dL_law_377 : decode cL_law 377 = .ok (.iaload, 1) := by decide +kernel
theorem dL_law_378 : decode cL_law 378 = .ok (.aload_n 0, 1) := by decide +kernel
theorem dL_law_379 : decode cL_law 379 = .ok (.iload_n 3, 1) := by decide +kernel
theorem dL_law_380 : decode cL_law 380 = .ok (.iconst 2, 1) := by decide +kernel
theorem dL_law_381 : decode cL_law 381 = .ok (.iadd, 1) := by decide +kernel
theorem dL_law_382 : decode cL_law 382 = .ok (.iaload, 1) := by decide +kernel
theorem dL_law_383 : decode cL_law 383 = .ok (.invokevirtual 40, 3) := by decide +kernel
theorem dL_law_386 : decode cL_law 386 = .ok (.aload_n 2, 1) := by decide +kernel
theorem dL_law_387 : decode cL_law 387 = .ok (.aload_n 0, 1) := by decide +kernel
theorem dL_law_388 : decode cL_law 388 = .ok (.iload_n 3, 1) := by decide +kernel
theorem dL_law_389 : decode cL_law 389 = .ok (.iconst 1, 1) := by decide +kernel
theorem dL_law_390 : decode cL_law 390 = .ok (.iadd, 1) := by decide +kernel
theorem dL_law_391 : decode cL_law 391 = .ok (.iaload, 1) := by decide +kernel
theorem dL_law_392 : decode cL_law 392 = .ok (.aload_n 0, 1) := by decide +kernel
theorem dL_law_393 : decode cL_law 393 = .ok (.iload_n 3, 1) := by decide +kernel
theorem dL_law_394 : decode cL_law 394 = .ok (.iconst 2, 1) := by decide +kernel
theorem dL_law_395 : decode cL_law 395 = .ok (.iadd, 1) := by decide +kernel
theorem dL_law_396 : decode cL_law 396 = .ok (.iaload, 1) := by decide +kernel
theorem dL_law_397 : decode cL_law 397 = .ok (.invokevirtual 43, 3) := by decide +kernel
theorem dL_law_400 : decode cL_law 400 = .ok (.if_icmp .eq 549, 3) := by decide +kernel
theorem dL_law_403 : decode cL_law 403 = .ok (.iconst 0, 1) := by decide +kernel
theorem dL_law_404 : decode cL_law 404 = .ok (.ireturn, 1) := by decide +kernel
theorem dL_law_405 : decode cL_law 405 = .ok (.aload_n 1, 1) := by decide +kernel
theorem dL_law_406 : decode cL_law 406 = .ok (.aload_n 0, 1) := by decide +kernel
theorem dL_law_407 : decode cL_law 407 = .ok (.iload_n 3, 1) := by decide +kernel
theorem dL_law_408 : decode cL_law 408 = .ok (.iconst 1, 1) := by decide +kernel
theorem dL_law_409 : decode cL_law 409 = .ok (.iadd, 1) := by decide +kernel
theorem dL_law_410 : decode cL_law 410 = .ok (.iaload, 1) := by decide +kernel
theorem dL_law_411 : decode cL_law 411 = .ok (.aload_n 0, 1) := by decide +kernel
theorem dL_law_412 : decode cL_law 412 = .ok (.iload_n 3, 1) := by decide +kernel
theorem dL_law_413 : decode cL_law 413 = .ok (.iconst 2, 1) := by decide +kernel
theorem dL_law_414 : decode cL_law 414 = .ok (.iadd, 1) := by decide +kernel
theorem dL_law_415 : decode cL_law 415 = .ok (.iaload, 1) := by decide +kernel
theorem dL_law_416 : decode cL_law 416 = .ok (.invokevirtual 44, 3) := by decide +kernel
theorem dL_law_419 : decode cL_law 419 = .ok (.aload_n 2, 1) := by decide +kernel
theorem dL_law_420 : decode cL_law 420 = .ok (.aload_n 0, 1) := by decide +kernel
theorem dL_law_421 : decode cL_law 421 = .ok (.iload_n 3, 1) := by decide +kernel
theorem dL_law_422 : decode cL_law 422 = .ok (.iconst 1, 1) := by decide +kernel
theorem dL_law_423 : decode cL_law 423 = .ok (.iadd, 1) := by decide +kernel
theorem dL_law_424 : decode cL_law 424 = .ok (.iaload, 1) := by decide +kernel
theorem dL_law_425 : decode cL_law 425 = .ok (.aload_n 0, 1) := by decide +kernel
theorem dL_law_426 : decode cL_law 426 = .ok (.iload_n 3, 1) := by decide +kernel
theorem dL_law_427 : decode cL_law 427 = .ok (.iconst 2, 1) := by decide +kernel
theorem dL_law_428 : decode cL_law 428 = .ok (.iadd, 1) := by decide +kernel
theorem dL_law_429 : decode cL_law 429 = .ok (.iaload, 1) := by decide +kernel
theorem dL_law_430 : decode cL_law 430 = .ok (.invokevirtual 47, 3) := by decide +kernel
theorem dL_law_433 : decode cL_law 433 = .ok (.if_icmp .eq 516, 3) := by decide +kernel
theorem dL_law_436 : decode cL_law 436 = .ok (.iconst 0, 1) := by decide +kernel
theorem dL_law_437 : decode cL_law 437 = .ok (.ireturn, 1) := by decide +kernel
theorem dL_law_438 : decode cL_law 438 = .ok (.aload_n 1, 1) := by decide +kernel
theorem dL_law_439 : decode cL_law 439 = .ok (.aload_n 0, 1) := by decide +kernel
theorem dL_law_440 : decode cL_law 440 = .ok (.iload_n 3, 1) := by decide +kernel
theorem dL_law_441 : decode cL_law 441 = .ok (.iconst 1, 1) := by decide +kernel
theorem dL_law_442 : decode cL_law 442 = .ok (.iadd, 1) := by decide +kernel
theorem dL_law_443 : decode cL_law 443 = .ok (.iaload, 1) := by decide +kernel
theorem dL_law_444 : decode cL_law 444 = .ok (.aload_n 0, 1) := by decide +kernel
theorem dL_law_445 : decode cL_law 445 = .ok (.iload_n 3, 1) := by decide +kernel
theorem dL_law_446 : decode cL_law 446 = .ok (.iconst 2, 1) := by decide +kernel
theorem dL_law_447 : decode cL_law 447 = .ok (.iadd, 1) := by decide +kernel
theorem dL_law_448 : decode cL_law 448 = .ok (.iaload, 1) := by decide +kernel
theorem dL_law_449 : decode cL_law 449 = .ok (.invokevirtual 48, 3) := by decide +kernel
theorem dL_law_452 : decode cL_law 452 = .ok (.aload_n 2, 1) := by decide +kernel
theorem dL_law_453 : decode cL_law 453 = .ok (.aload_n 0, 1) := by decide +kernel
theorem dL_law_454 : decode cL_law 454 = .ok (.iload_n 3, 1) := by decide +kernel
theorem dL_law_455 : decode cL_law 455 = .ok (.iconst 1, 1) := by decide +kernel
theorem dL_law_456 : decode cL_law 456 = .ok (.iadd, 1) := by decide +kernel
theorem dL_law_457 : decode cL_law 457 = .ok (.iaload, 1) := by decide +kernel
theorem dL_law_458 : decode cL_law 458 = .ok (.aload_n 0, 1) := by decide +kernel
theorem dL_law_459 : decode cL_law 459 = .ok (.iload_n 3, 1) := by decide +kernel
theorem dL_law_460 : decode cL_law 460 = .ok (.iconst 2, 1) := by decide +kernel
theorem dL_law_461 : decode cL_law 461 = .ok (.iadd, 1) := by decide +kernel
theorem dL_law_462 : decode cL_law 462 = .ok (.iaload, 1) := by decide +kernel
theorem dL_law_463 : decode cL_law 463 = .ok (.invokevirtual 51, 3) := by decide +kernel
theorem dL_law_466 : decode cL_law 466 = .ok (.if_icmp .eq 483, 3) := by decide +kernel
theorem dL_law_469 : decode cL_law 469 = .ok (.iconst 0, 1) := by decide +kernel
theorem dL_law_470 : decode cL_law 470 = .ok (.ireturn, 1) := by decide +kernel
theorem dL_law_471 : decode cL_law 471 = .ok (.aload_n 1, 1) := by decide +kernel
theorem dL_law_472 : decode cL_law 472 = .ok (.invokevirtual 52, 3) := by decide +kernel
theorem dL_law_475 : decode cL_law 475 = .ok (.aload_n 2, 1) := by decide +kernel
theorem dL_law_476 : decode cL_law 476 = .ok (.invokevirtual 56, 3) := by decide +kernel
theorem dL_law_479 : decode cL_law 479 = .ok (.if_icmp .eq 470, 3) := by decide +kernel
theorem dL_law_482 : decode cL_law 482 = .ok (.iconst 0, 1) := by decide +kernel
theorem dL_law_483 : decode cL_law 483 = .ok (.ireturn, 1) := by decide +kernel
theorem dL_law_484 : decode cL_law 484 = .ok (.aload_n 1, 1) := by decide +kernel
theorem dL_law_485 : decode cL_law 485 = .ok (.aload_n 0, 1) := by decide +kernel
theorem dL_law_486 : decode cL_law 486 = .ok (.iload_n 3, 1) := by decide +kernel
theorem dL_law_487 : decode cL_law 487 = .ok (.iconst 1, 1) := by decide +kernel
theorem dL_law_488 : decode cL_law 488 = .ok (.iadd, 1) := by decide +kernel
theorem dL_law_489 : decode cL_law 489 = .ok (.iaload, 1) := by decide +kernel
theorem dL_law_490 : decode cL_law 490 = .ok (.invokevirtual 57, 3) := by decide +kernel
theorem dL_law_493 : decode cL_law 493 = .ok (.aload_n 2, 1) := by decide +kernel
theorem dL_law_494 : decode cL_law 494 = .ok (.aload_n 0, 1) := by decide +kernel
theorem dL_law_495 : decode cL_law 495 = .ok (.iload_n 3, 1) := by decide +kernel
theorem dL_law_496 : decode cL_law 496 = .ok (.iconst 1, 1) := by decide +kernel
theorem dL_law_497 : decode cL_law 497 = .ok (.iadd, 1) := by decide +kernel
theorem dL_law_498 : decode cL_law 498 = .ok (.iaload, 1) := by decide +kernel
theorem dL_law_499 : decode cL_law 499 = .ok (.invokevirtual 60, 3) := by decide +kernel
theorem dL_law_502 : decode cL_law 502 = .ok (.if_icmp .eq 447, 3) := by decide +kernel
theorem dL_law_505 : decode cL_law 505 = .ok (.iconst 0, 1) := by decide +kernel
theorem dL_law_506 : decode cL_law 506 = .ok (.ireturn, 1) := by decide +kernel
theorem dL_law_507 : decode cL_law 507 = .ok (.aload_n 1, 1) := by decide +kernel
theorem dL_law_508 : decode cL_law 508 = .ok (.aload_n 0, 1) := by decide +kernel
theorem dL_law_509 : decode cL_law 509 = .ok (.iload_n 3, 1) := by decide +kernel
theorem dL_law_510 : decode cL_law 510 = .ok (.iconst 1, 1) := by decide +kernel
theorem dL_law_511 : decode cL_law 511 = .ok (.iadd, 1) := by decide +kernel
theorem dL_law_512 : decode cL_law 512 = .ok (.iaload, 1) := by decide +kernel
theorem dL_law_513 : decode cL_law 513 = .ok (.i2c, 1) := by decide +kernel
theorem dL_law_514 : decode cL_law 514 = .ok (.invokevirtual 61, 3) := by decide +kernel
theorem dL_law_517 : decode cL_law 517 = .ok (.aload_n 2, 1) := by decide +kernel
theorem dL_law_518 : decode cL_law 518 = .ok (.aload_n 0, 1) := by decide +kernel
theorem dL_law_519 : decode cL_law 519 = .ok (.iload_n 3, 1) := by decide +kernel
theorem dL_law_520 : decode cL_law 520 = .ok (.iconst 1, 1) := by decide +kernel
theorem dL_law_521 : decode cL_law 521 = .ok (.iadd, 1) := by decide +kernel
theorem dL_law_522 : decode cL_law 522 = .ok (.iaload, 1) := by decide +kernel
theorem dL_law_523 : decode cL_law 523 = .ok (.i2c, 1) := by decide +kernel
theorem dL_law_524 : decode cL_law 524 = .ok (.invokevirtual 65, 3) := by decide +kernel
theorem dL_law_527 : decode cL_law 527 = .ok (.if_icmp .eq 422, 3) := by decide +kernel
theorem dL_law_530 : decode cL_law 530 = .ok (.iconst 0, 1) := by decide +kernel
theorem dL_law_531 : decode cL_law 531 = .ok (.ireturn, 1) := by decide +kernel
theorem dL_law_532 : decode cL_law 532 = .ok (.aload_n 1, 1) := by decide +kernel
theorem dL_law_533 : decode cL_law 533 = .ok (.invokevirtual 66, 3) := by decide +kernel
theorem dL_law_536 : decode cL_law 536 = .ok (.aload_n 2, 1) := by decide +kernel
theorem dL_law_537 : decode cL_law 537 = .ok (.invokevirtual 69, 3) := by decide +kernel
theorem dL_law_540 : decode cL_law 540 = .ok (.if_icmp .eq 409, 3) := by decide +kernel
theorem dL_law_543 : decode cL_law 543 = .ok (.iconst 0, 1) := by decide +kernel
theorem dL_law_544 : decode cL_law 544 = .ok (.ireturn, 1) := by decide +kernel
theorem dL_law_545 : decode cL_law 545 = .ok (.aload_n 1, 1) := by decide +kernel
theorem dL_law_546 : decode cL_law 546 = .ok (.invokevirtual 70, 3) := by decide +kernel
theorem dL_law_549 : decode cL_law 549 = .ok (.aload_n 2, 1) := by decide +kernel
theorem dL_law_550 : decode cL_law 550 = .ok (.invokevirtual 73, 3) := by decide +kernel
theorem dL_law_553 : decode cL_law 553 = .ok (.if_icmp .eq 396, 3) := by decide +kernel
theorem dL_law_556 : decode cL_law 556 = .ok (.iconst 0, 1) := by decide +kernel
theorem dL_law_557 : decode cL_law 557 = .ok (.ireturn, 1) := by decide +kernel
theorem dL_law_558 : decode cL_law 558 = .ok (.aload_n 1, 1) := by decide +kernel
theorem dL_law_559 : decode cL_law 559 = .ok (.aload_n 0, 1) := by decide +kernel
theorem dL_law_560 : decode cL_law 560 = .ok (.iload_n 3, 1) := by decide +kernel
theorem dL_law_561 : decode cL_law 561 = .ok (.iconst 1, 1) := by decide +kernel
theorem dL_law_562 : decode cL_law 562 = .ok (.iadd, 1) := by decide +kernel
theorem dL_law_563 : decode cL_law 563 = .ok (.iaload, 1) := by decide +kernel
theorem dL_law_564 : decode cL_law 564 = .ok (.invokevirtual 74, 3) := by decide +kernel
theorem dL_law_567 : decode cL_law 567 = .ok (.aload_n 2, 1) := by decide +kernel
theorem dL_law_568 : decode cL_law 568 = .ok (.aload_n 0, 1) := by decide +kernel
theorem dL_law_569 : decode cL_law 569 = .ok (.iload_n 3, 1) := by decide +kernel
theorem dL_law_570 : decode cL_law 570 = .ok (.iconst 1, 1) := by decide +kernel
theorem dL_law_571 : decode cL_law 571 = .ok (.iadd, 1) := by decide +kernel
theorem dL_law_572 : decode cL_law 572 = .ok (.iaload, 1) := by decide +kernel
theorem dL_law_573 : decode cL_law 573 = .ok (.invokevirtual 77, 3) := by decide +kernel
theorem dL_law_576 : decode cL_law 576 = .ok (.if_icmp .eq 373, 3) := by decide +kernel
theorem dL_law_579 : decode cL_law 579 = .ok (.iconst 0, 1) := by decide +kernel
theorem dL_law_580 : decode cL_law 580 = .ok (.ireturn, 1) := by decide +kernel
theorem dL_law_581 : decode cL_law 581 = .ok (.aload_n 1, 1) := by decide +kernel
theorem dL_law_582 : decode cL_law 582 = .ok (.invokevirtual 78, 3) := by decide +kernel
theorem dL_law_585 : decode cL_law 585 = .ok (.aload_n 2, 1) := by decide +kernel
theorem dL_law_586 : decode cL_law 586 = .ok (.invokevirtual 81, 3) := by decide +kernel
theorem dL_law_589 : decode cL_law 589 = .ok (.if_icmp .eq 360, 3) := by decide +kernel
theorem dL_law_592 : decode cL_law 592 = .ok (.iconst 0, 1) := by decide +kernel
theorem dL_law_593 : decode cL_law 593 = .ok (.ireturn, 1) := by decide +kernel
theorem dL_law_594 : decode cL_law 594 = .ok (.aload_n 1, 1) := by decide +kernel
theorem dL_law_595 : decode cL_law 595 = .ok (.invokevirtual 82, 3) := by decide +kernel
theorem dL_law_598 : decode cL_law 598 = .ok (.aload_n 2, 1) := by decide +kernel
theorem dL_law_599 : decode cL_law 599 = .ok (.invokevirtual 85, 3) := by decide +kernel
theorem dL_law_602 : decode cL_law 602 = .ok (.if_icmp .eq 347, 3) := by decide +kernel
theorem dL_law_605 : decode cL_law 605 = .ok (.iconst 0, 1) := by decide +kernel
theorem dL_law_606 : decode cL_law 606 = .ok (.ireturn, 1) := by decide +kernel
theorem dL_law_607 : decode cL_law 607 = .ok (.aload_n 1, 1) := by decide +kernel
theorem dL_law_608 : decode cL_law 608 = .ok (.invokevirtual 86, 3) := by decide +kernel
theorem dL_law_611 : decode cL_law 611 = .ok (.aload_n 2, 1) := by decide +kernel
theorem dL_law_612 : decode cL_law 612 = .ok (.invokevirtual 89, 3) := by decide +kernel
theorem dL_law_615 : decode cL_law 615 = .ok (.if_icmp .eq 334, 3) := by decide +kernel
theorem dL_law_618 : decode cL_law 618 = .ok (.iconst 0, 1) := by decide +kernel
theorem dL_law_619 : decode cL_law 619 = .ok (.ireturn, 1) := by decide +kernel
theorem dL_law_620 : decode cL_law 620 = .ok (.aload_n 1, 1) := by decide +kernel
theorem dL_law_621 : decode cL_law 621 = .ok (.aload_n 0, 1) := by decide +kernel
theorem dL_law_622 : decode cL_law 622 = .ok (.iload_n 3, 1) := by decide +kernel
theorem dL_law_623 : decode cL_law 623 = .ok (.iconst 1, 1) := by decide +kernel
theorem dL_law_624 : decode cL_law 624 = .ok (.iadd, 1) := by decide +kernel
theorem dL_law_625 : decode cL_law 625 = .ok (.iaload, 1) := by decide +kernel
theorem dL_law_626 : decode cL_law 626 = .ok (.aload_n 0, 1) := by decide +kernel
theorem dL_law_627 : decode cL_law 627 = .ok (.iload_n 3, 1) := by decide +kernel
theorem dL_law_628 : decode cL_law 628 = .ok (.iconst 2, 1) := by decide +kernel
theorem dL_law_629 : decode cL_law 629 = .ok (.iadd, 1) := by decide +kernel
theorem dL_law_630 : decode cL_law 630 = .ok (.iaload, 1) := by decide +kernel
theorem dL_law_631 : decode cL_law 631 = .ok (.invokevirtual 90, 3) := by decide +kernel
theorem dL_law_634 : decode cL_law 634 = .ok (.aload_n 2, 1) := by decide +kernel
theorem dL_law_635 : decode cL_law 635 = .ok (.aload_n 0, 1) := by decide +kernel
theorem dL_law_636 : decode cL_law 636 = .ok (.iload_n 3, 1) := by decide +kernel
theorem dL_law_637 : decode cL_law 637 = .ok (.iconst 1, 1) := by decide +kernel
theorem dL_law_638 : decode cL_law 638 = .ok (.iadd, 1) := by decide +kernel
theorem dL_law_639 : decode cL_law 639 = .ok (.iaload, 1) := by decide +kernel
theorem dL_law_640 : decode cL_law 640 = .ok (.aload_n 0, 1) := by decide +kernel
theorem dL_law_641 : decode cL_law 641 = .ok (.iload_n 3, 1) := by decide +kernel
theorem dL_law_642 : decode cL_law 642 = .ok (.iconst 2, 1) := by decide +kernel
theorem dL_law_643 : decode cL_law 643 = .ok (.iadd, 1) := by decide +kernel
theorem dL_law_644 : decode cL_law 644 = .ok (.iaload, 1) := by decide +kernel
theorem dL_law_645 : decode cL_law 645 = .ok (.invokevirtual 93, 3) := by decide +kernel
theorem dL_law_648 : decode cL_law 648 = .ok (.if_icmp .eq 301, 3) := by decide +kernel
theorem dL_law_651 : decode cL_law 651 = .ok (.iconst 0, 1) := by decide +kernel
theorem dL_law_652 : decode cL_law 652 = .ok (.ireturn, 1) := by decide +kernel
theorem dL_law_653 : decode cL_law 653 = .ok (.aload_n 1, 1) := by decide +kernel
theorem dL_law_654 : decode cL_law 654 = .ok (.aload_n 0, 1) := by decide +kernel
theorem dL_law_655 : decode cL_law 655 = .ok (.iload_n 3, 1) := by decide +kernel
theorem dL_law_656 : decode cL_law 656 = .ok (.iconst 1, 1) := by decide +kernel
theorem dL_law_657 : decode cL_law 657 = .ok (.iadd, 1) := by decide +kernel
theorem dL_law_658 : decode cL_law 658 = .ok (.iaload, 1) := by decide +kernel
theorem dL_law_659 : decode cL_law 659 = .ok (.invokevirtual 94, 3) := by decide +kernel
theorem dL_law_662 : decode cL_law 662 = .ok (.dstore 4, 2) := by decide +kernel
theorem dL_law_664 : decode cL_law 664 = .ok (.aload_n 2, 1) := by decide +kernel
theorem dL_law_665 : decode cL_law 665 = .ok (.aload_n 0, 1) := by decide +kernel
theorem dL_law_666 : decode cL_law 666 = .ok (.iload_n 3, 1) := by decide +kernel
theorem dL_law_667 : decode cL_law 667 = .ok (.iconst 1, 1) := by decide +kernel
theorem dL_law_668 : decode cL_law 668 = .ok (.iadd, 1) := by decide +kernel
theorem dL_law_669 : decode cL_law 669 = .ok (.iaload, 1) := by decide +kernel
theorem dL_law_670 : decode cL_law 670 = .ok (.invokevirtual 98, 3) := by decide +kernel
theorem dL_law_673 : decode cL_law 673 = .ok (.dstore 6, 2) := by decide +kernel
theorem dL_law_675 : decode cL_law 675 = .ok (.dload 4, 2) := by decide +kernel
theorem dL_law_677 : decode cL_law 677 = .ok (.dload 6, 2) := by decide +kernel
theorem dL_law_679 : decode cL_law 679 = .ok (.dcmp .l, 1) := by decide +kernel
theorem dL_law_680 : decode cL_law 680 = .ok (.ifCond .eq 21, 3) := by decide +kernel
theorem dL_law_683 : decode cL_law 683 = .ok (.dload 4, 2) := by decide +kernel
theorem dL_law_685 : decode cL_law 685 = .ok (.dload 4, 2) := by decide +kernel
theorem dL_law_687 : decode cL_law 687 = .ok (.dcmp .l, 1) := by decide +kernel
theorem dL_law_688 : decode cL_law 688 = .ok (.ifCond .eq 11, 3) := by decide +kernel
theorem dL_law_691 : decode cL_law 691 = .ok (.dload 6, 2) := by decide +kernel
theorem dL_law_693 : decode cL_law 693 = .ok (.dload 6, 2) := by decide +kernel
theorem dL_law_695 : decode cL_law 695 = .ok (.dcmp .l, 1) := by decide +kernel
theorem dL_law_696 : decode cL_law 696 = .ok (.ifCond .ne 5, 3) := by decide +kernel
theorem dL_law_699 : decode cL_law 699 = .ok (.iconst 0, 1) := by decide +kernel
theorem dL_law_700 : decode cL_law 700 = .ok (.ireturn, 1) := by decide +kernel
theorem dL_law_701 : decode cL_law 701 = .ok (.goto 248, 3) := by decide +kernel
theorem dL_law_704 : decode cL_law 704 = .ok (.aload_n 1, 1) := by decide +kernel
theorem dL_law_705 : decode cL_law 705 = .ok (.aload_n 0, 1) := by decide +kernel
theorem dL_law_706 : decode cL_law 706 = .ok (.iload_n 3, 1) := by decide +kernel
theorem dL_law_707 : decode cL_law 707 = .ok (.iconst 1, 1) := by decide +kernel
theorem dL_law_708 : decode cL_law 708 = .ok (.iadd, 1) := by decide +kernel
theorem dL_law_709 : decode cL_law 709 = .ok (.iaload, 1) := by decide +kernel
theorem dL_law_710 : decode cL_law 710 = .ok (.aload_n 0, 1) := by decide +kernel
theorem dL_law_711 : decode cL_law 711 = .ok (.iload_n 3, 1) := by decide +kernel
theorem dL_law_712 : decode cL_law 712 = .ok (.iconst 2, 1) := by decide +kernel
theorem dL_law_713 : decode cL_law 713 = .ok (.iadd, 1) := by decide +kernel
theorem dL_law_714 : decode cL_law 714 = .ok (.iaload, 1) := by decide +kernel
theorem dL_law_715 : decode cL_law 715 = .ok (.invokevirtual 99, 3) := by decide +kernel
theorem dL_law_718 : decode cL_law 718 = .ok (.dstore 4, 2) := by decide +kernel
theorem dL_law_720 : decode cL_law 720 = .ok (.aload_n 2, 1) := by decide +kernel
theorem dL_law_721 : decode cL_law 721 = .ok (.aload_n 0, 1) := by decide +kernel
theorem dL_law_722 : decode cL_law 722 = .ok (.iload_n 3, 1) := by decide +kernel
theorem dL_law_723 : decode cL_law 723 = .ok (.iconst 1, 1) := by decide +kernel
theorem dL_law_724 : decode cL_law 724 = .ok (.iadd, 1) := by decide +kernel
theorem dL_law_725 : decode cL_law 725 = .ok (.iaload, 1) := by decide +kernel
theorem dL_law_726 : decode cL_law 726 = .ok (.aload_n 0, 1) := by decide +kernel
theorem dL_law_727 : decode cL_law 727 = .ok (.iload_n 3, 1) := by decide +kernel
theorem dL_law_728 : decode cL_law 728 = .ok (.iconst 2, 1) := by decide +kernel
theorem dL_law_729 : decode cL_law 729 = .ok (.iadd, 1) := by decide +kernel
theorem dL_law_730 : decode cL_law 730 = .ok (.iaload, 1) := by decide +kernel
theorem dL_law_731 : decode cL_law 731 = .ok (.invokevirtual 103, 3) := by decide +kernel
theorem dL_law_734 : decode cL_law 734 = .ok (.dstore 6, 2) := by decide +kernel
theorem dL_law_736 : decode cL_law 736 = .ok (.dload 4, 2) := by decide +kernel
theorem dL_law_738 : decode cL_law 738 = .ok (.dload 6, 2) := by decide +kernel
theorem dL_law_740 : decode cL_law 740 = .ok (.dcmp .l, 1) := by decide +kernel
theorem dL_law_741 : decode cL_law 741 = .ok (.ifCond .eq 21, 3) := by decide +kernel
theorem dL_law_744 : decode cL_law 744 = .ok (.dload 4, 2) := by decide +kernel
theorem dL_law_746 : decode cL_law 746 = .ok (.dload 4, 2) := by decide +kernel
theorem dL_law_748 : decode cL_law 748 = .ok (.dcmp .l, 1) := by decide +kernel
theorem dL_law_749 : decode cL_law 749 = .ok (.ifCond .eq 11, 3) := by decide +kernel
theorem dL_law_752 : decode cL_law 752 = .ok (.dload 6, 2) := by decide +kernel
theorem dL_law_754 : decode cL_law 754 = .ok (.dload 6, 2) := by decide +kernel
theorem dL_law_756 : decode cL_law 756 = .ok (.dcmp .l, 1) := by decide +kernel
theorem dL_law_757 : decode cL_law 757 = .ok (.ifCond .ne 5, 3) := by decide +kernel
theorem dL_law_760 : decode cL_law 760 = .ok (.iconst 0, 1) := by decide +kernel
theorem dL_law_761 : decode cL_law 761 = .ok (.ireturn, 1) := by decide +kernel
theorem dL_law_762 : decode cL_law 762 = .ok (.goto 187, 3) := by decide +kernel
theorem dL_law_765 : decode cL_law 765 = .ok (.aload_n 1, 1) := by decide +kernel
theorem dL_law_766 : decode cL_law 766 = .ok (.aload_n 0, 1) := by decide +kernel
theorem dL_law_767 : decode cL_law 767 = .ok (.iload_n 3, 1) := by decide +kernel
theorem dL_law_768 : decode cL_law 768 = .ok (.iconst 1, 1) := by decide +kernel
theorem dL_law_769 : decode cL_law 769 = .ok (.iadd, 1) := by decide +kernel
theorem dL_law_770 : decode cL_law 770 = .ok (.iaload, 1) := by decide +kernel
theorem dL_law_771 : decode cL_law 771 = .ok (.aload_n 0, 1) := by decide +kernel
theorem dL_law_772 : decode cL_law 772 = .ok (.iload_n 3, 1) := by decide +kernel
theorem dL_law_773 : decode cL_law 773 = .ok (.iconst 2, 1) := by decide +kernel
theorem dL_law_774 : decode cL_law 774 = .ok (.iadd, 1) := by decide +kernel
theorem dL_law_775 : decode cL_law 775 = .ok (.iaload, 1) := by decide +kernel
theorem dL_law_776 : decode cL_law 776 = .ok (.invokevirtual 104, 3) := by decide +kernel
theorem dL_law_779 : decode cL_law 779 = .ok (.aload_n 2, 1) := by decide +kernel
theorem dL_law_780 : decode cL_law 780 = .ok (.aload_n 0, 1) := by decide +kernel
theorem dL_law_781 : decode cL_law 781 = .ok (.iload_n 3, 1) := by decide +kernel
theorem dL_law_782 : decode cL_law 782 = .ok (.iconst 1, 1) := by decide +kernel
theorem dL_law_783 : decode cL_law 783 = .ok (.iadd, 1) := by decide +kernel
theorem dL_law_784 : decode cL_law 784 = .ok (.iaload, 1) := by decide +kernel
theorem dL_law_785 : decode cL_law 785 = .ok (.aload_n 0, 1) := by decide +kernel
theorem dL_law_786 : decode cL_law 786 = .ok (.iload_n 3, 1) := by decide +kernel
theorem dL_law_787 : decode cL_law 787 = .ok (.iconst 2, 1) := by decide +kernel
theorem dL_law_788 : decode cL_law 788 = .ok (.iadd, 1) := by decide +kernel
theorem dL_law_789 : decode cL_law 789 = .ok (.iaload, 1) := by decide +kernel
theorem dL_law_790 : decode cL_law 790 = .ok (.invokevirtual 107, 3) := by decide +kernel
theorem dL_law_793 : decode cL_law 793 = .ok (.if_icmp .eq 156, 3) := by decide +kernel
theorem dL_law_796 : decode cL_law 796 = .ok (.iconst 0, 1) := by decide +kernel
theorem dL_law_797 : decode cL_law 797 = .ok (.ireturn, 1) := by decide +kernel
theorem dL_law_798 : decode cL_law 798 = .ok (.aload_n 1, 1) := by decide +kernel
theorem dL_law_799 : decode cL_law 799 = .ok (.aload_n 0, 1) := by decide +kernel
theorem dL_law_800 : decode cL_law 800 = .ok (.iload_n 3, 1) := by decide +kernel
theorem dL_law_801 : decode cL_law 801 = .ok (.iconst 1, 1) := by decide +kernel
theorem dL_law_802 : decode cL_law 802 = .ok (.iadd, 1) := by decide +kernel
theorem dL_law_803 : decode cL_law 803 = .ok (.iaload, 1) := by decide +kernel
theorem dL_law_804 : decode cL_law 804 = .ok (.invokevirtual 108, 3) := by decide +kernel
theorem dL_law_807 : decode cL_law 807 = .ok (.aload_n 2, 1) := by decide +kernel
theorem dL_law_808 : decode cL_law 808 = .ok (.aload_n 0, 1) := by decide +kernel
theorem dL_law_809 : decode cL_law 809 = .ok (.iload_n 3, 1) := by decide +kernel
theorem dL_law_810 : decode cL_law 810 = .ok (.iconst 1, 1) := by decide +kernel
theorem dL_law_811 : decode cL_law 811 = .ok (.iadd, 1) := by decide +kernel
theorem dL_law_812 : decode cL_law 812 = .ok (.iaload, 1) := by decide +kernel
theorem dL_law_813 : decode cL_law 813 = .ok (.invokevirtual 111, 3) := by decide +kernel
theorem dL_law_816 : decode cL_law 816 = .ok (.if_icmp .eq 133, 3) := by decide +kernel
theorem dL_law_819 : decode cL_law 819 = .ok (.iconst 0, 1) := by decide +kernel
theorem dL_law_820 : decode cL_law 820 = .ok (.ireturn, 1) := by decide +kernel
theorem dL_law_821 : decode cL_law 821 = .ok (.aload_n 1, 1) := by decide +kernel
theorem dL_law_822 : decode cL_law 822 = .ok (.aload_n 0, 1) := by decide +kernel
theorem dL_law_823 : decode cL_law 823 = .ok (.iload_n 3, 1) := by decide +kernel
theorem dL_law_824 : decode cL_law 824 = .ok (.iconst 1, 1) := by decide +kernel
theorem dL_law_825 : decode cL_law 825 = .ok (.iadd, 1) := by decide +kernel
theorem dL_law_826 : decode cL_law 826 = .ok (.iaload, 1) := by decide +kernel
theorem dL_law_827 : decode cL_law 827 = .ok (.invokevirtual 112, 3) := by decide +kernel
theorem dL_law_830 : decode cL_law 830 = .ok (.aload_n 2, 1) := by decide +kernel
theorem dL_law_831 : decode cL_law 831 = .ok (.aload_n 0, 1) := by decide +kernel
theorem dL_law_832 : decode cL_law 832 = .ok (.iload_n 3, 1) := by decide +kernel
theorem dL_law_833 : decode cL_law 833 = .ok (.iconst 1, 1) := by decide +kernel
theorem dL_law_834 : decode cL_law 834 = .ok (.iadd, 1) := by decide +kernel
theorem dL_law_835 : decode cL_law 835 = .ok (.iaload, 1) := by decide +kernel
theorem dL_law_836 : decode cL_law 836 = .ok (.invokevirtual 115, 3) := by decide +kernel
theorem dL_law_839 : decode cL_law 839 = .ok (.if_icmp .eq 110, 3) := by decide +kernel
theorem dL_law_842 : decode cL_law 842 = .ok (.iconst 0, 1) := by decide +kernel
theorem dL_law_843 : decode cL_law 843 = .ok (.ireturn, 1) := by decide +kernel
theorem dL_law_844 : decode cL_law 844 = .ok (.aload_n 1, 1) := by decide +kernel
theorem dL_law_845 : decode cL_law 845 = .ok (.invokevirtual 116, 3) := by decide +kernel
theorem dL_law_848 : decode cL_law 848 = .ok (.aload_n 2, 1) := by decide +kernel
theorem dL_law_849 : decode cL_law 849 = .ok (.invokevirtual 119, 3) := by decide +kernel
theorem dL_law_852 : decode cL_law 852 = .ok (.if_icmp .eq 97, 3) := by decide +kernel
theorem dL_law_855 : decode cL_law 855 = .ok (.iconst 0, 1) := by decide +kernel
theorem dL_law_856 : decode cL_law 856 = .ok (.ireturn, 1) := by decide +kernel
theorem dL_law_857 : decode cL_law 857 = .ok (.aload_n 1, 1) := by decide +kernel
theorem dL_law_858 : decode cL_law 858 = .ok (.invokevirtual 120, 3) := by decide +kernel
theorem dL_law_861 : decode cL_law 861 = .ok (.aload_n 2, 1) := by decide +kernel
theorem dL_law_862 : decode cL_law 862 = .ok (.invokevirtual 123, 3) := by decide +kernel
theorem dL_law_865 : decode cL_law 865 = .ok (.if_icmp .eq 84, 3) := by decide +kernel
theorem dL_law_868 : decode cL_law 868 = .ok (.iconst 0, 1) := by decide +kernel
theorem dL_law_869 : decode cL_law 869 = .ok (.ireturn, 1) := by decide +kernel
theorem dL_law_870 : decode cL_law 870 = .ok (.aload_n 1, 1) := by decide +kernel
theorem dL_law_871 : decode cL_law 871 = .ok (.aload_n 0, 1) := by decide +kernel
theorem dL_law_872 : decode cL_law 872 = .ok (.iload_n 3, 1) := by decide +kernel
theorem dL_law_873 : decode cL_law 873 = .ok (.iconst 1, 1) := by decide +kernel
theorem dL_law_874 : decode cL_law 874 = .ok (.iadd, 1) := by decide +kernel
theorem dL_law_875 : decode cL_law 875 = .ok (.iaload, 1) := by decide +kernel
theorem dL_law_876 : decode cL_law 876 = .ok (.invokevirtual 124, 3) := by decide +kernel
theorem dL_law_879 : decode cL_law 879 = .ok (.aload_n 2, 1) := by decide +kernel
theorem dL_law_880 : decode cL_law 880 = .ok (.aload_n 0, 1) := by decide +kernel
theorem dL_law_881 : decode cL_law 881 = .ok (.iload_n 3, 1) := by decide +kernel
theorem dL_law_882 : decode cL_law 882 = .ok (.iconst 1, 1) := by decide +kernel
theorem dL_law_883 : decode cL_law 883 = .ok (.iadd, 1) := by decide +kernel
theorem dL_law_884 : decode cL_law 884 = .ok (.iaload, 1) := by decide +kernel
theorem dL_law_885 : decode cL_law 885 = .ok (.invokevirtual 127, 3) := by decide +kernel
theorem dL_law_888 : decode cL_law 888 = .ok (.if_icmp .eq 61, 3) := by decide +kernel
theorem dL_law_891 : decode cL_law 891 = .ok (.iconst 0, 1) := by decide +kernel
theorem dL_law_892 : decode cL_law 892 = .ok (.ireturn, 1) := by decide +kernel
theorem dL_law_893 : decode cL_law 893 = .ok (.aload_n 1, 1) := by decide +kernel
theorem dL_law_894 : decode cL_law 894 = .ok (.aload_n 0, 1) := by decide +kernel
theorem dL_law_895 : decode cL_law 895 = .ok (.iload_n 3, 1) := by decide +kernel
theorem dL_law_896 : decode cL_law 896 = .ok (.iconst 1, 1) := by decide +kernel
theorem dL_law_897 : decode cL_law 897 = .ok (.iadd, 1) := by decide +kernel
theorem dL_law_898 : decode cL_law 898 = .ok (.iaload, 1) := by decide +kernel
theorem dL_law_899 : decode cL_law 899 = .ok (.aload_n 0, 1) := by decide +kernel
theorem dL_law_900 : decode cL_law 900 = .ok (.iload_n 3, 1) := by decide +kernel
theorem dL_law_901 : decode cL_law 901 = .ok (.iconst 2, 1) := by decide +kernel
theorem dL_law_902 : decode cL_law 902 = .ok (.iadd, 1) := by decide +kernel
theorem dL_law_903 : decode cL_law 903 = .ok (.iaload, 1) := by decide +kernel
theorem dL_law_904 : decode cL_law 904 = .ok (.invokevirtual 128, 3) := by decide +kernel
theorem dL_law_907 : decode cL_law 907 = .ok (.aload_n 2, 1) := by decide +kernel
theorem dL_law_908 : decode cL_law 908 = .ok (.aload_n 0, 1) := by decide +kernel
theorem dL_law_909 : decode cL_law 909 = .ok (.iload_n 3, 1) := by decide +kernel
theorem dL_law_910 : decode cL_law 910 = .ok (.iconst 1, 1) := by decide +kernel
theorem dL_law_911 : decode cL_law 911 = .ok (.iadd, 1) := by decide +kernel
theorem dL_law_912 : decode cL_law 912 = .ok (.iaload, 1) := by decide +kernel
theorem dL_law_913 : decode cL_law 913 = .ok (.aload_n 0, 1) := by decide +kernel
theorem dL_law_914 : decode cL_law 914 = .ok (.iload_n 3, 1) := by decide +kernel
theorem dL_law_915 : decode cL_law 915 = .ok (.iconst 2, 1) := by decide +kernel
theorem dL_law_916 : decode cL_law 916 = .ok (.iadd, 1) := by decide +kernel
theorem dL_law_917 : decode cL_law 917 = .ok (.iaload, 1) := by decide +kernel
theorem dL_law_918 : decode cL_law 918 = .ok (.invokevirtual 131, 3) := by decide +kernel
theorem dL_law_921 : decode cL_law 921 = .ok (.if_icmp .eq 28, 3) := by decide +kernel
theorem dL_law_924 : decode cL_law 924 = .ok (.iconst 0, 1) := by decide +kernel
theorem dL_law_925 : decode cL_law 925 = .ok (.ireturn, 1) := by decide +kernel
theorem dL_law_926 : decode cL_law 926 = .ok (.aload_n 1, 1) := by decide +kernel
theorem dL_law_927 : decode cL_law 927 = .ok (.aload_n 0, 1) := by decide +kernel
theorem dL_law_928 : decode cL_law 928 = .ok (.iload_n 3, 1) := by decide +kernel
theorem dL_law_929 : decode cL_law 929 = .ok (.iconst 1, 1) := by decide +kernel
theorem dL_law_930 : decode cL_law 930 = .ok (.iadd, 1) := by decide +kernel
theorem dL_law_931 : decode cL_law 931 = .ok (.iaload, 1) := by decide +kernel
theorem dL_law_932 : decode cL_law 932 = .ok (.invokevirtual 132, 3) := by decide +kernel
theorem dL_law_935 : decode cL_law 935 = .ok (.aload_n 2, 1) := by decide +kernel
theorem dL_law_936 : decode cL_law 936 = .ok (.aload_n 0, 1) := by decide +kernel
theorem dL_law_937 : decode cL_law 937 = .ok (.iload_n 3, 1) := by decide +kernel
theorem dL_law_938 : decode cL_law 938 = .ok (.iconst 1, 1) := by decide +kernel
theorem dL_law_939 : decode cL_law 939 = .ok (.iadd, 1) := by decide +kernel
theorem dL_law_940 : decode cL_law 940 = .ok (.iaload, 1) := by decide +kernel
theorem dL_law_941 : decode cL_law 941 = .ok (.invokevirtual 135, 3) := by decide +kernel
theorem dL_law_944 : decode cL_law 944 = .ok (.if_icmp .eq 5, 3) := by decide +kernel
theorem dL_law_947 : decode cL_law 947 = .ok (.iconst 0, 1) := by decide +kernel
theorem dL_law_948 : decode cL_law 948 = .ok (.ireturn, 1) := by decide +kernel
theorem dL_law_949 : decode cL_law 949 = .ok (.iinc 3 5, 3) := by decide +kernel
theorem dL_law_952 : decode cL_law 952 = .ok (.goto (-934), 3) := by decide +kernel
theorem dL_law_955 : decode cL_law 955 = .ok (.iconst 1, 1) := by decide +kernel
theorem dL_law_956 : decode cL_law 956 = .ok (.ireturn, 1) := by decide +kernel
