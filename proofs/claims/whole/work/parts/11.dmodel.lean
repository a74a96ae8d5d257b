theorem dX9_init_0 : decode cX9_init 0 = .ok (.aload_n 0, 1) := by decide +kernel
theorem dX9_init_1 : decode cX9_init 1 = .ok (.invokespecial 1, 3) := by decide +kernel
theorem dX9_init_4 : decode cX9_init 4 = .ok (.aload_n 0, 1) := by decide +kernel
theorem dX9_init_5 : decode cX9_init 5 = .ok (.bipush 64, 2) := by decide +kernel
theorem dX9_init_7 : decode cX9_init 7 = .ok (.newarray .int, 2) := by decide +kernel
theorem dX9_init_9 : decode cX9_init 9 = .ok (.putfield 7, 3) := by decide +kernel
theorem dX9_init_12 : decode cX9_init 12 = .ok (.aload_n 0, 1) := by decide +kernel
theorem dX9_init_13 : decode cX9_init 13 = .ok (.bipush 64, 2) := by decide +kernel
theorem dX9_init_15 : decode cX9_init 15 = .ok (.newarray .int, 2) := by decide +kernel
theorem dX9_init_17 : decode cX9_init 17 = .ok (.putfield 13, 3) := by decide +kernel
theorem dX9_init_20 : decode cX9_init 20 = .ok (.aload_n 0, 1) := by decide +kernel
theorem dX9_init_21 : decode cX9_init 21 = .ok (.bipush 64, 2) := by decide +kernel
theorem dX9_init_23 : decode cX9_init 23 = .ok (.newarray .int, 2) := by decide +kernel
theorem dX9_init_25 : decode cX9_init 25 = .ok (.putfield 16, 3) := by decide +kernel
theorem dX9_init_28 : decode cX9_init 28 = .ok (.aload_n 0, 1) := by decide +kernel
theorem dX9_init_29 : decode cX9_init 29 = .ok (.bipush 64, 2) := by decide +kernel
theorem dX9_init_31 : decode cX9_init 31 = .ok (.newarray .int, 2) := by decide +kernel
theorem dX9_init_33 : decode cX9_init 33 = .ok (.putfield 19, 3) := by decide +kernel
theorem dX9_init_36 : decode cX9_init 36 = .ok (.aload_n 0, 1) := by decide +kernel
theorem dX9_init_37 : decode cX9_init 37 = .ok (.sipush 512, 3) := by decide +kernel
theorem dX9_init_40 : decode cX9_init 40 = .ok (.newarray .int, 2) := by decide +kernel
theorem dX9_init_42 : decode cX9_init 42 = .ok (.putfield 22, 3) := by decide +kernel
theorem dX9_init_45 : decode cX9_init 45 = .ok (.aload_n 0, 1) := by decide +kernel
theorem dX9_init_46 : decode cX9_init 46 = .ok (.iconst 0, 1) := by decide +kernel
theorem dX9_init_47 : decode cX9_init 47 = .ok (.putfield 25, 3) := by decide +kernel
theorem dX9_init_50 : decode cX9_init 50 = .ok (.aload_n 0, 1) := by decide +kernel
theorem dX9_init_51 : decode cX9_init 51 = .ok (.iconst 0, 1) := by decide +kernel
theorem dX9_init_52 : decode cX9_init 52 = .ok (.putfield 29, 3) := by decide +kernel
theorem dX9_init_55 : decode cX9_init 55 = .ok (.aload_n 0, 1) := by decide +kernel
theorem dX9_init_56 : decode cX9_init 56 = .ok (.iconst (-1), 1) := by decide +kernel
theorem dX9_init_57 : decode cX9_init 57 = .ok (.putfield 32, 3) := by decide +kernel
theorem dX9_init_60 : decode cX9_init 60 = .ok (.aload_n 0, 1) := by decide +kernel
theorem dX9_init_61 : decode cX9_init 61 = .ok (.iconst (-1), 1) := by decide +kernel
theorem dX9_init_62 : decode cX9_init 62 = .ok (.putfield 35, 3) := by decide +kernel
theorem dX9_init_65 : decode cX9_init 65 = .ok (.aload_n 0, 1) := by decide +kernel
theorem dX9_init_66 : decode cX9_init 66 = .ok (.iconst 0, 1) := by decide +kernel
theorem dX9_init_67 : decode cX9_init 67 = .ok (.putfield 38, 3) := by decide +kernel
theorem dX9_init_70 : decode cX9_init 70 = .ok (.aload_n 0, 1) := by decide +kernel
theorem dX9_init_71 : decode cX9_init 71 = .ok (.bipush 120, 2) := by decide +kernel
theorem dX9_init_73 : decode cX9_init 73 = .ok (.newarray .int, 2) := by decide +kernel
theorem dX9_init_75 : decode cX9_init 75 = .ok (.putfield 42, 3) := by decide +kernel
theorem dX9_init_78 : decode cX9_init 78 = .ok (.aload_n 0, 1) := by decide +kernel
theorem dX9_init_79 : decode cX9_init 79 = .ok (.iconst 0, 1) := by decide +kernel
theorem dX9_init_80 : decode cX9_init 80 = .ok (.putfield 45, 3) := by decide +kernel
theorem dX9_init_83 : decode cX9_init 83 = .ok (.aload_n 0, 1) := by decide +kernel
theorem dX9_init_84 : decode cX9_init 84 = .ok (.bipush 60, 2) := by decide +kernel
theorem dX9_init_86 : decode cX9_init 86 = .ok (.newarray .int, 2) := by decide +kernel
theorem dX9_init_88 : decode cX9_init 88 = .ok (.putfield 48, 3) := by decide +kernel
theorem dX9_init_91 : decode cX9_init 91 = .ok (.aload_n 0, 1) := by decide +kernel
theorem dX9_init_92 : decode cX9_init 92 = .ok (.bipush 32, 2) := by decide +kernel
theorem dX9_init_94 : decode cX9_init 94 = .ok (.newarray .int, 2) := by decide +kernel
theorem dX9_init_96 : decode cX9_init 96 = .ok (.putfield 51, 3) := by decide +kernel
theorem dX9_init_99 : decode cX9_init 99 = .ok (.aload_n 0, 1) := by decide +kernel
theorem dX9_init_100 : decode cX9_init 100 = .ok (.bipush 32, 2) := by decide +kernel
theorem dX9_init_102 : decode cX9_init 102 = .ok (.newarray .int, 2) := by decide +kernel
theorem dX9_init_104 : decode cX9_init 104 = .ok (.putfield 54, 3) := by decide +kernel
theorem dX9_init_107 : decode cX9_init 107 = .ok (.aload_n 0, 1) := by decide +kernel
theorem dX9_init_108 : decode cX9_init 108 = .ok (.iconst 0, 1) := by decide +kernel
theorem dX9_init_109 : decode cX9_init 109 = .ok (.putfield 57, 3) := by decide +kernel
theorem dX9_init_112 : decode cX9_init 112 = .ok (.aload_n 0, 1) := by decide +kernel
theorem dX9_init_113 : decode cX9_init 113 = .ok (.iconst 0, 1) := by decide +kernel
theorem dX9_init_114 : decode cX9_init 114 = .ok (.putfield 60, 3) := by decide +kernel
theorem dX9_init_117 : decode cX9_init 117 = .ok (.aload_n 0, 1) := by decide +kernel
theorem dX9_init_118 : decode cX9_init 118 = .ok (.iconst 0, 1) := by decide +kernel
theorem dX9_init_119 : decode cX9_init 119 = .ok (.putfield 63, 3) := by decide +kernel
theorem dX9_init_122 : decode cX9_init 122 = .ok (.aload_n 0, 1) := by decide +kernel
theorem dX9_init_123 : decode cX9_init 123 = .ok (.iconst 0, 1) := by decide +kernel
theorem dX9_init_124 : decode cX9_init 124 = .ok (.putfield 66, 3) := by decide +kernel
theorem dX9_init_127 : decode cX9_init 127 = .ok (.aload_n 0, 1) := by decide +kernel
theorem dX9_init_128 : decode cX9_init 128 = .ok (.iconst 0, 1) := by decide +kernel
theorem dX9_init_129 : decode cX9_init 129 = .ok (.putfield 69, 3) := by decide +kernel
theorem dX9_init_132 : decode cX9_init 132 = .ok (.return_, 1) := by decide +kernel
theorem dX9_thrown_0 : decode cX9_thrown 0 = .ok (.aload_n 0, 1) := by decide +kernel
theorem dX9_thrown_1 : decode cX9_thrown 1 = .ok (.getfield 25, 3) := by decide +kernel
theorem dX9_thrown_4 : decode cX9_thrown 4 = .ok (.ireturn, 1) := by decide +kernel
theorem dX9_in_0 : decode cX9_in 0 = .ok (.iload_n 0, 1) := by decide +kernel
theorem dX9_in_1 : decode cX9_in 1 = .ok (.iload_n 1, 1) := by decide +kernel
theorem dX9_in_2 : decode cX9_in 2 = .ok (.if_icmp .lt 12, 3) := by decide +kernel
theorem dX9_in_5 : decode cX9_in 5 = .ok (.iload_n 0, 1) := by decide +kernel
theorem dX9_in_6 : decode cX9_in 6 = .ok (.iload_n 2, 1) := by decide +kernel
theorem dX9_in_7 : decode cX9_in 7 = .ok (.if_icmp .gt 7, 3) := by decide +kernel
theorem dX9_in_10 : decode cX9_in 10 = .ok (.iconst 1, 1) := by decide +kernel
theorem dX9_in_11 : decode cX9_in 11 = .ok (.goto 4, 3) := by decide +kernel
theorem dX9_in_14 : decode cX9_in 14 = .ok (.iconst 0, 1) := by decide +kernel
theorem dX9_in_15 : decode cX9_in 15 = .ok (.ireturn, 1) := by decide +kernel
theorem dX9_copy_0 : decode cX9_copy 0 = .ok (.iconst 0, 1) := by decide +kernel
theorem dX9_copy_1 : decode cX9_copy 1 = .ok (.istore 4, 2) := by decide +kernel
theorem dX9_copy_3 : decode cX9_copy 3 = .ok (.iload 4, 2) := by decide +kernel
theorem dX9_copy_5 : decode cX9_copy 5 = .ok (.bipush 64, 2) := by decide +kernel
theorem dX9_copy_7 : decode cX9_copy 7 = .ok (.if_icmp .ge 21, 3) := by decide +kernel
theorem dX9_copy_10 : decode cX9_copy 10 = .ok (.aload_n 2, 1) := by decide +kernel
theorem dX9_copy_11 : decode cX9_copy 11 = .ok (.iload_n 3, 1) := by decide +kernel
theorem dX9_copy_12 : decode cX9_copy 12 = .ok (.iload 4, 2) := by decide +kernel
theorem dX9_copy_14 : decode cX9_copy 14 = .ok (.iadd, 1) := by decide +kernel
theorem dX9_copy_15 : decode cX9_copy 15 = .ok (.aload_n 0, 1) := by decide +kernel
theorem dX9_copy_16 : decode cX9_copy 16 = .ok (.iload_n 1, 1) := by decide +kernel
theorem dX9_copy_17 : decode cX9_copy 17 = .ok (.iload 4, 2) := by decide +kernel
theorem dX9_copy_19 : decode cX9_copy 19 = .ok (.iadd, 1) := by decide +kernel
theorem dX9_copy_20 : decode cX9_copy 20 = .ok (.iaload, 1) := by decide +kernel
theorem dX9_copy_21 : decode cX9_copy 21 = .ok (.iastore, 1) := by decide +kernel
theorem dX9_copy_22 : decode cX9_copy 22 = .ok (.iinc 4 1, 3) := by decide +kernel
theorem dX9_copy_25 : decode cX9_copy 25 = .ok (.goto (-22), 3) := by decide +kernel
theorem dX9_copy_28 : decode cX9_copy 28 = .ok (.return_, 1) := by decide +kernel
theorem dX9_fail_0 : decode cX9_fail 0 = .ok (.aload_n 0, 1) := by decide +kernel
theorem dX9_fail_1 : decode cX9_fail 1 = .ok (.iload_n 1, 1) := by decide +kernel
theorem dX9_fail_2 : decode cX9_fail 2 = .ok (.putfield 25, 3) := by decide +kernel
theorem dX9_fail_5 : decode cX9_fail 5 = .ok (.iconst 0, 1) := by decide +kernel
theorem dX9_fail_6 : decode cX9_fail 6 = .ok (.ireturn, 1) := by decide +kernel
theorem dX9_begin_0 : decode cX9_begin 0 = .ok (.aload_n 0, 1) := by decide +kernel
theorem dX9_begin_1 : decode cX9_begin 1 = .ok (.iconst 0, 1) := by decide +kernel
theorem dX9_begin_2 : decode cX9_begin 2 = .ok (.putfield 25, 3) := by decide +kernel
theorem dX9_begin_5 : decode cX9_begin 5 = .ok (.aload_n 0, 1) := by decide +kernel
theorem dX9_begin_6 : decode cX9_begin 6 = .ok (.getfield 7, 3) := by decide +kernel
theorem dX9_begin_9 : decode cX9_begin 9 = .ok (.iconst 0, 1) := by decide +kernel
theorem dX9_begin_10 : decode cX9_begin 10 = .ok (.aload_n 0, 1) := by decide +kernel
theorem dX9_begin_11 : decode cX9_begin 11 = .ok (.getfield 13, 3) := by decide +kernel
theorem dX9_begin_14 : decode cX9_begin 14 = .ok (.iconst 0, 1) := by decide +kernel
theorem dX9_begin_15 : decode cX9_begin 15 = .ok (.invokestatic 72, 3) := by decide +kernel
theorem dX9_begin_18 : decode cX9_begin 18 = .ok (.return_, 1) := by decide +kernel
theorem dX9_commit_0 : decode cX9_commit 0 = .ok (.aload_n 0, 1) := by decide +kernel
theorem dX9_commit_1 : decode cX9_commit 1 = .ok (.getfield 29, 3) := by decide +kernel
theorem dX9_commit_4 : decode cX9_commit 4 = .ok (.bipush 8, 2) := by decide +kernel
theorem dX9_commit_6 : decode cX9_commit 6 = .ok (.if_icmp .ne 48, 3) := by decide +kernel
theorem dX9_commit_9 : decode cX9_commit 9 = .ok (.iconst 1, 1) := by decide +kernel
theorem dX9_commit_10 : decode cX9_commit 10 = .ok (.istore_n 2, 1) := by decide +kernel
theorem dX9_commit_11 : decode cX9_commit 11 = .ok (.iload_n 2, 1) := by decide +kernel
theorem dX9_commit_12 : decode cX9_commit 12 = .ok (.bipush 8, 2) := by decide +kernel
theorem dX9_commit_14 : decode cX9_commit 14 = .ok (.if_icmp .ge 30, 3) := by decide +kernel
theorem dX9_commit_17 : decode cX9_commit 17 = .ok (.aload_n 0, 1) := by decide +kernel
theorem dX9_commit_18 : decode cX9_commit 18 = .ok (.getfield 22, 3) := by decide +kernel
theorem dX9_commit_21 : decode cX9_commit 21 = .ok (.bipush 64, 2) := by decide +kernel
theorem dX9_commit_23 : decode cX9_commit 23 = .ok (.iload_n 2, 1) := by decide +kernel
theorem dX9_commit_24 : decode cX9_commit 24 = .ok (.imul, 1) := by decide +kernel
theorem dX9_commit_25 : decode cX9_commit 25 = .ok (.aload_n 0, 1) := by decide +kernel
theorem dX9_commit_26 : decode cX9_commit 26 = .ok (.getfield 22, 3) := by decide +kernel
theorem dX9_commit_29 : decode cX9_commit 29 = .ok (.bipush 64, 2) := by decide +kernel
theorem dX9_commit_31 : decode cX9_commit 31 = .ok (.iload_n 2, 1) := by decide +kernel
theorem dX9_commit_32 : decode cX9_commit 32 = .ok (.iconst 1, 1) := by decide +kernel
theorem dX9_commit_33 : decode cX9_commit 33 = .ok (.isub, 1) := by decide +kernel
theorem dX9_commit_34 : decode cX9_commit 34 = .ok (.imul, 1) := by decide +kernel
theorem dX9_commit_35 : decode cX9_commit 35 = .ok (.invokestatic 72, 3) := by decide +kernel
theorem dX9_commit_38 : decode cX9_commit 38 = .ok (.iinc 2 1, 3) := by decide +kernel
theorem dX9_commit_41 : decode cX9_commit 41 = .ok (.goto (-30), 3) := by decide +kernel
theorem dX9_commit_44 : decode cX9_commit 44 = .ok (.aload_n 0, 1) := by decide +kernel
theorem dX9_commit_45 : decode cX9_commit 45 = .ok (.dup, 1) := by decide +kernel
theorem dX9_commit_46 : decode cX9_commit 46 = .ok (.getfield 29, 3) := by decide +kernel
theorem dX9_commit_49 : decode cX9_commit 49 = .ok (.iconst 1, 1) := by decide +kernel
theorem dX9_commit_50 : decode cX9_commit 50 = .ok (.isub, 1) := by decide +kernel
theorem dX9_commit_51 : decode cX9_commit 51 = .ok (.putfield 29, 3) := by decide +kernel
theorem dX9_commit_54 : decode cX9_commit 54 = .ok (.aload_n 0, 1) := by decide +kernel
theorem dX9_commit_55 : decode cX9_commit 55 = .ok (.getfield 13, 3) := by decide +kernel
theorem dX9_commit_58 : decode cX9_commit 58 = .ok (.iconst 0, 1) := by decide +kernel
theorem dX9_commit_59 : decode cX9_commit 59 = .ok (.aload_n 0, 1) := by decide +kernel
theorem dX9_commit_60 : decode cX9_commit 60 = .ok (.getfield 22, 3) := by decide +kernel
theorem dX9_commit_63 : decode cX9_commit 63 = .ok (.bipush 64, 2) := by decide +kernel
theorem dX9_commit_65 : decode cX9_commit 65 = .ok (.aload_n 0, 1) := by decide +kernel
theorem dX9_commit_66 : decode cX9_commit 66 = .ok (.getfield 29, 3) := by decide +kernel
theorem dX9_commit_69 : decode cX9_commit 69 = .ok (.imul, 1) := by decide +kernel
theorem dX9_commit_70 : decode cX9_commit 70 = .ok (.invokestatic 72, 3) := by decide +kernel
theorem dX9_commit_73 : decode cX9_commit 73 = .ok (.aload_n 0, 1) := by decide +kernel
theorem dX9_commit_74 : decode cX9_commit 74 = .ok (.dup, 1) := by decide +kernel
theorem dX9_commit_75 : decode cX9_commit 75 = .ok (.getfield 29, 3) := by decide +kernel
theorem dX9_commit_78 : decode cX9_commit 78 = .ok (.iconst 1, 1) := by decide +kernel
theorem dX9_commit_79 : decode cX9_commit 79 = .ok (.iadd, 1) := by decide +kernel
theorem dX9_commit_80 : decode cX9_commit 80 = .ok (.putfield 29, 3) := by decide +kernel
theorem dX9_commit_83 : decode cX9_commit 83 = .ok (.iload_n 1, 1) := by decide +kernel
theorem dX9_commit_84 : decode cX9_commit 84 = .ok (.ireturn, 1) := by decide +kernel
theorem dX9_runs_0 : decode cX9_runs 0 = .ok (.aload_n 0, 1) := by decide +kernel
theorem dX9_runs_1 : decode cX9_runs 1 = .ok (.getfield 7, 3) := by decide +kernel
theorem dX9_runs_4 : decode cX9_runs 4 = .ok (.iconst 0, 1) := by decide +kernel
theorem dX9_runs_5 : decode cX9_runs 5 = .ok (.iaload, 1) := by decide +kernel
theorem dX9_runs_6 : decode cX9_runs 6 = .ok (.iconst 1, 1) := by decide +kernel
theorem dX9_runs_7 : decode cX9_runs 7 = .ok (.if_icmp .ne 7, 3) := by decide +kernel
theorem dX9_runs_10 : decode cX9_runs 10 = .ok (.iconst 1, 1) := by decide +kernel
theorem dX9_runs_11 : decode cX9_runs 11 = .ok (.goto 4, 3) := by decide +kernel
theorem dX9_runs_14 : decode cX9_runs 14 = .ok (.iconst 0, 1) := by decide +kernel
theorem dX9_runs_15 : decode cX9_runs 15 = .ok (.ireturn, 1) := by decide +kernel
theorem dX9_isTilt_0 : decode cX9_isTilt 0 = .ok (.aload_n 0, 1) := by decide +kernel
theorem dX9_isTilt_1 : decode cX9_isTilt 1 = .ok (.getfield 7, 3) := by decide +kernel
theorem dX9_isTilt_4 : decode cX9_isTilt 4 = .ok (.bipush 11, 2) := by decide +kernel
theorem dX9_isTilt_6 : decode cX9_isTilt 6 = .ok (.iaload, 1) := by decide +kernel
theorem dX9_isTilt_7 : decode cX9_isTilt 7 = .ok (.iconst 1, 1) := by decide +kernel
theorem dX9_isTilt_8 : decode cX9_isTilt 8 = .ok (.if_icmp .ne 7, 3) := by decide +kernel
theorem dX9_isTilt_11 : decode cX9_isTilt 11 = .ok (.iconst 1, 1) := by decide +kernel
theorem dX9_isTilt_12 : decode cX9_isTilt 12 = .ok (.goto 4, 3) := by decide +kernel
theorem dX9_isTilt_15 : decode cX9_isTilt 15 = .ok (.iconst 0, 1) := by decide +kernel
theorem dX9_isTilt_16 : decode cX9_isTilt 16 = .ok (.ireturn, 1) := by decide +kernel
theorem dX9_cannotAdd_0 : decode cX9_cannotAdd 0 = .ok (.aload_n 0, 1) := by decide +kernel
theorem dX9_cannotAdd_1 : decode cX9_cannotAdd 1 = .ok (.invokevirtual 76, 3) := by decide +kernel
theorem dX9_cannotAdd_4 : decode cX9_cannotAdd 4 = .ok (.ifCond .ne 13, 3) := by decide +kernel
theorem dX9_cannotAdd_7 : decode cX9_cannotAdd 7 = .ok (.aload_n 0, 1) := by decide +kernel
theorem dX9_cannotAdd_8 : decode cX9_cannotAdd 8 = .ok (.getfield 7, 3) := by decide +kernel
theorem dX9_cannotAdd_11 : decode cX9_cannotAdd 11 = .ok (.iconst 2, 1) := by decide +kernel
theorem dX9_cannotAdd_12 : decode cX9_cannotAdd 12 = .ok (.iaload, 1) := by decide +kernel
theorem dX9_cannotAdd_13 : decode cX9_cannotAdd 13 = .ok (.iconst 4, 1) := by decide +kernel
theorem dX9_cannotAdd_14 : decode cX9_cannotAdd 14 = .ok (.if_icmp .ne 7, 3) := by decide +kernel
theorem dX9_cannotAdd_17 : decode cX9_cannotAdd 17 = .ok (.iconst 1, 1) := by decide +kernel
theorem dX9_cannotAdd_18 : decode cX9_cannotAdd 18 = .ok (.goto 4, 3) := by decide +kernel
theorem dX9_cannotAdd_21 : decode cX9_cannotAdd 21 = .ok (.iconst 0, 1) := by decide +kernel
theorem dX9_cannotAdd_22 : decode cX9_cannotAdd 22 = .ok (.ireturn, 1) := by decide +kernel
theorem dX9_adds_0 : decode cX9_adds 0 = .ok (.aload_n 0, 1) := by decide +kernel
theorem dX9_adds_1 : decode cX9_adds 1 = .ok (.getfield 7, 3) := by decide +kernel
theorem dX9_adds_4 : decode cX9_adds 4 = .ok (.iconst 2, 1) := by decide +kernel
theorem dX9_adds_5 : decode cX9_adds 5 = .ok (.iaload, 1) := by decide +kernel
theorem dX9_adds_6 : decode cX9_adds 6 = .ok (.istore_n 1, 1) := by decide +kernel
theorem dX9_adds_7 : decode cX9_adds 7 = .ok (.aload_n 0, 1) := by decide +kernel
theorem dX9_adds_8 : decode cX9_adds 8 = .ok (.getfield 7, 3) := by decide +kernel
theorem dX9_adds_11 : decode cX9_adds 11 = .ok (.bipush 30, 2) := by decide +kernel
theorem dX9_adds_13 : decode cX9_adds 13 = .ok (.iload_n 1, 1) := by decide +kernel
theorem dX9_adds_14 : decode cX9_adds 14 = .ok (.iadd, 1) := by decide +kernel
theorem dX9_adds_15 : decode cX9_adds 15 = .ok (.iconst 0, 1) := by decide +kernel
theorem dX9_adds_16 : decode cX9_adds 16 = .ok (.iastore, 1) := by decide +kernel
theorem dX9_adds_17 : decode cX9_adds 17 = .ok (.aload_n 0, 1) := by decide +kernel
theorem dX9_adds_18 : decode cX9_adds 18 = .ok (.getfield 7, 3) := by decide +kernel
theorem dX9_adds_21 : decode cX9_adds 21 = .ok (.bipush 34, 2) := by decide +kernel
theorem dX9_adds_23 : decode cX9_adds 23 = .ok (.iload_n 1, 1) := by decide +kernel
theorem dX9_adds_24 : decode cX9_adds 24 = .ok (.iadd, 1) := by decide +kernel
theorem dX9_adds_25 : decode cX9_adds 25 = .ok (.iconst 0, 1) := by decide +kernel
theorem dX9_adds_26 : decode cX9_adds 26 = .ok (.iastore, 1) := by decide +kernel
theorem dX9_adds_27 : decode cX9_adds 27 = .ok (.aload_n 0, 1) := by decide +kernel
theorem dX9_adds_28 : decode cX9_adds 28 = .ok (.getfield 7, 3) := by decide +kernel
theorem dX9_adds_31 : decode cX9_adds 31 = .ok (.bipush 38, 2) := by decide +kernel
theorem dX9_adds_33 : decode cX9_adds 33 = .ok (.iload_n 1, 1) := by decide +kernel
theorem dX9_adds_34 : decode cX9_adds 34 = .ok (.iadd, 1) := by decide +kernel
theorem dX9_adds_35 : decode cX9_adds 35 = .ok (.iconst 0, 1) := by decide +kernel
theorem dX9_adds_36 : decode cX9_adds 36 = .ok (.iastore, 1) := by decide +kernel
theorem dX9_adds_37 : decode cX9_adds 37 = .ok (.aload_n 0, 1) := by decide +kernel
theorem dX9_adds_38 : decode cX9_adds 38 = .ok (.getfield 7, 3) := by decide +kernel
theorem dX9_adds_41 : decode cX9_adds 41 = .ok (.iconst 2, 1) := by decide +kernel
theorem dX9_adds_42 : decode cX9_adds 42 = .ok (.dup2, 1) := by decide +kernel
theorem dX9_adds_43 : decode cX9_adds 43 = .ok (.iaload, 1) := by decide +kernel
theorem dX9_adds_44 : decode cX9_adds 44 = .ok (.iconst 1, 1) := by decide +kernel
theorem dX9_adds_45 : decode cX9_adds 45 = .ok (.iadd, 1) := by decide +kernel
theorem dX9_adds_46 : decode cX9_adds 46 = .ok (.iastore, 1) := by decide +kernel
theorem dX9_adds_47 : decode cX9_adds 47 = .ok (.iload_n 1, 1) := by decide +kernel
theorem dX9_adds_48 : decode cX9_adds 48 = .ok (.ireturn, 1) := by decide +kernel
theorem dX9_addPlayer_0 : decode cX9_addPlayer 0 = .ok (.aload_n 0, 1) := by decide +kernel
theorem dX9_addPlayer_1 : decode cX9_addPlayer 1 = .ok (.invokevirtual 80, 3) := by decide +kernel
theorem dX9_addPlayer_4 : decode cX9_addPlayer 4 = .ok (.aload_n 0, 1) := by decide +kernel
theorem dX9_addPlayer_5 : decode cX9_addPlayer 5 = .ok (.invokevirtual 83, 3) := by decide +kernel
theorem dX9_addPlayer_8 : decode cX9_addPlayer 8 = .ok (.ifCond .le 11, 3) := by decide +kernel
theorem dX9_addPlayer_11 : decode cX9_addPlayer 11 = .ok (.aload_n 0, 1) := by decide +kernel
theorem dX9_addPlayer_12 : decode cX9_addPlayer 12 = .ok (.iconst 1, 1) := by decide +kernel
theorem dX9_addPlayer_13 : decode cX9_addPlayer 13 = .ok (.invokevirtual 87, 3) := by decide +kernel
theorem dX9_addPlayer_16 : decode cX9_addPlayer 16 = .ok (.goto 11, 3) := by decide +kernel
theorem dX9_addPlayer_19 : decode cX9_addPlayer 19 = .ok (.aload_n 0, 1) := by decide +kernel
theorem dX9_addPlayer_20 : decode cX9_addPlayer 20 = .ok (.aload_n 0, 1) := by decide +kernel
theorem dX9_addPlayer_21 : decode cX9_addPlayer 21 = .ok (.invokevirtual 91, 3) := by decide +kernel
theorem dX9_addPlayer_24 : decode cX9_addPlayer 24 = .ok (.invokevirtual 94, 3) := by decide +kernel
theorem dX9_addPlayer_27 : decode cX9_addPlayer 27 = .ok (.ireturn, 1) := by decide +kernel
theorem dX9_beginsBall_0 : decode cX9_beginsBall 0 = .ok (.aload_n 0, 1) := by decide +kernel
theorem dX9_beginsBall_1 : decode cX9_beginsBall 1 = .ok (.getfield 7, 3) := by decide +kernel
theorem dX9_beginsBall_4 : decode cX9_beginsBall 4 = .ok (.iconst 5, 1) := by decide +kernel
theorem dX9_beginsBall_5 : decode cX9_beginsBall 5 = .ok (.iconst 1, 1) := by decide +kernel
theorem dX9_beginsBall_6 : decode cX9_beginsBall 6 = .ok (.iastore, 1) := by decide +kernel
theorem dX9_beginsBall_7 : decode cX9_beginsBall 7 = .ok (.iconst 0, 1) := by decide +kernel
theorem dX9_beginsBall_8 : decode cX9_beginsBall 8 = .ok (.istore_n 1, 1) := by decide +kernel
theorem dX9_beginsBall_9 : decode cX9_beginsBall 9 = .ok (.iload_n 1, 1) := by decide +kernel
theorem dX9_beginsBall_10 : decode cX9_beginsBall 10 = .ok (.iconst 4, 1) := by decide +kernel
theorem dX9_beginsBall_11 : decode cX9_beginsBall 11 = .ok (.if_icmp .ge 19, 3) := by decide +kernel
theorem dX9_beginsBall_14 : decode cX9_beginsBall 14 = .ok (.aload_n 0, 1) := by decide +kernel
theorem dX9_beginsBall_15 : decode cX9_beginsBall 15 = .ok (.getfield 7, 3) := by decide +kernel
theorem dX9_beginsBall_18 : decode cX9_beginsBall 18 = .ok (.bipush 16, 2) := by decide +kernel
theorem dX9_beginsBall_20 : decode cX9_beginsBall 20 = .ok (.iload_n 1, 1) := by decide +kernel
theorem dX9_beginsBall_21 : decode cX9_beginsBall 21 = .ok (.iadd, 1) := by decide +kernel
theorem dX9_beginsBall_22 : decode cX9_beginsBall 22 = .ok (.iconst 0, 1) := by decide +kernel
theorem dX9_beginsBall_23 : decode cX9_beginsBall 23 = .ok (.iastore, 1) := by decide +kernel
theorem dX9_beginsBall_24 : decode cX9_beginsBall 24 = .ok (.iinc 1 1, 3) := by decide +kernel
theorem dX9_beginsBall_27 : decode cX9_beginsBall 27 = .ok (.goto (-18), 3) := by decide +kernel
theorem dX9_beginsBall_30 : decode cX9_beginsBall 30 = .ok (.iconst 0, 1) := by decide +kernel
theorem dX9_beginsBall_31 : decode cX9_beginsBall 31 = .ok (.istore_n 1, 1) := by decide +kernel
theorem dX9_beginsBall_32 : decode cX9_beginsBall 32 = .ok (.iload_n 1, 1) := by decide +kernel
theorem dX9_beginsBall_33 : decode cX9_beginsBall 33 = .ok (.iconst 3, 1) := by decide +kernel
theorem dX9_beginsBall_34 : decode cX9_beginsBall 34 = .ok (.if_icmp .ge 20, 3) := by decide +kernel
theorem dX9_beginsBall_37 : decode cX9_beginsBall 37 = .ok (.aload_n 0, 1) := by decide +kernel
theorem dX9_beginsBall_38 : decode cX9_beginsBall 38 = .ok (.getfield 7, 3) := by decide +kernel
theorem dX9_beginsBall_41 : decode cX9_beginsBall 41 = .ok (.bipush 20, 2) := by decide +kernel
theorem dX9_beginsBall_43 : decode cX9_beginsBall 43 = .ok (.iload_n 1, 1) := by decide +kernel
theorem dX9_beginsBall_44 : decode cX9_beginsBall 44 = .ok (.iadd, 1) := by decide +kernel
theorem dX9_beginsBall_45 : decode cX9_beginsBall 45 = .ok (.bipush 50, 2) := by decide +kernel
theorem dX9_beginsBall_47 : decode cX9_beginsBall 47 = .ok (.iastore, 1) := by decide +kernel
theorem dX9_beginsBall_48 : decode cX9_beginsBall 48 = .ok (.iinc 1 1, 3) := by decide +kernel
theorem dX9_beginsBall_51 : decode cX9_beginsBall 51 = .ok (.goto (-19), 3) := by decide +kernel
theorem dX9_beginsBall_54 : decode cX9_beginsBall 54 = .ok (.iconst 0, 1) := by decide +kernel
theorem dX9_beginsBall_55 : decode cX9_beginsBall 55 = .ok (.istore_n 1, 1) := by decide +kernel
theorem dX9_beginsBall_56 : decode cX9_beginsBall 56 = .ok (.iload_n 1, 1) := by decide +kernel
theorem dX9_beginsBall_57 : decode cX9_beginsBall 57 = .ok (.iconst 5, 1) := by decide +kernel
theorem dX9_beginsBall_58 : decode cX9_beginsBall 58 = .ok (.if_icmp .ge 19, 3) := by decide +kernel
theorem dX9_beginsBall_61 : decode cX9_beginsBall 61 = .ok (.aload_n 0, 1) := by decide +kernel
theorem dX9_beginsBall_62 : decode cX9_beginsBall 62 = .ok (.getfield 7, 3) := by decide +kernel
theorem dX9_beginsBall_65 : decode cX9_beginsBall 65 = .ok (.bipush 24, 2) := by decide +kernel
theorem dX9_beginsBall_67 : decode cX9_beginsBall 67 = .ok (.iload_n 1, 1) := by decide +kernel
theorem dX9_beginsBall_68 : decode cX9_beginsBall 68 = .ok (.iadd, 1) := by decide +kernel
theorem dX9_beginsBall_69 : decode cX9_beginsBall 69 = .ok (.iconst 0, 1) := by decide +kernel
theorem dX9_beginsBall_70 : decode cX9_beginsBall 70 = .ok (.iastore, 1) := by decide +kernel
theorem dX9_beginsBall_71 : decode cX9_beginsBall 71 = .ok (.iinc 1 1, 3) := by decide +kernel
theorem dX9_beginsBall_74 : decode cX9_beginsBall 74 = .ok (.goto (-18), 3) := by decide +kernel
theorem dX9_beginsBall_77 : decode cX9_beginsBall 77 = .ok (.aload_n 0, 1) := by decide +kernel
theorem dX9_beginsBall_78 : decode cX9_beginsBall 78 = .ok (.getfield 7, 3) := by decide +kernel
theorem dX9_beginsBall_81 : decode cX9_beginsBall 81 = .ok (.bipush 6, 2) := by decide +kernel
theorem dX9_beginsBall_83 : decode cX9_beginsBall 83 = .ok (.iconst 0, 1) := by decide +kernel
theorem dX9_beginsBall_84 : decode cX9_beginsBall 84 = .ok (.iastore, 1) := by decide +kernel
theorem dX9_beginsBall_85 : decode cX9_beginsBall 85 = .ok (.aload_n 0, 1) := by decide +kernel
theorem dX9_beginsBall_86 : decode cX9_beginsBall 86 = .ok (.getfield 7, 3) := by decide +kernel
theorem dX9_beginsBall_89 : decode cX9_beginsBall 89 = .ok (.bipush 7, 2) := by decide +kernel
theorem dX9_beginsBall_91 : decode cX9_beginsBall 91 = .ok (.iconst 0, 1) := by decide +kernel
theorem dX9_beginsBall_92 : decode cX9_beginsBall 92 = .ok (.iastore, 1) := by decide +kernel
theorem dX9_beginsBall_93 : decode cX9_beginsBall 93 = .ok (.aload_n 0, 1) := by decide +kernel
theorem dX9_beginsBall_94 : decode cX9_beginsBall 94 = .ok (.getfield 7, 3) := by decide +kernel
theorem dX9_beginsBall_97 : decode cX9_beginsBall 97 = .ok (.bipush 8, 2) := by decide +kernel
theorem dX9_beginsBall_99 : decode cX9_beginsBall 99 = .ok (.iconst 0, 1) := by decide +kernel
theorem dX9_beginsBall_100 : decode cX9_beginsBall 100 = .ok (.iastore, 1) := by decide +kernel
theorem dX9_beginsBall_101 : decode cX9_beginsBall 101 = .ok (.aload_n 0, 1) := by decide +kernel
theorem dX9_beginsBall_102 : decode cX9_beginsBall 102 = .ok (.getfield 7, 3) := by decide +kernel
theorem dX9_beginsBall_105 : decode cX9_beginsBall 105 = .ok (.bipush 9, 2) := by decide +kernel
theorem dX9_beginsBall_107 : decode cX9_beginsBall 107 = .ok (.iconst 0, 1) := by decide +kernel
theorem dX9_beginsBall_108 : decode cX9_beginsBall 108 = .ok (.iastore, 1) := by decide +kernel
theorem dX9_beginsBall_109 : decode cX9_beginsBall 109 = .ok (.aload_n 0, 1) := by decide +kernel
theorem dX9_beginsBall_110 : decode cX9_beginsBall 110 = .ok (.getfield 7, 3) := by decide +kernel
theorem dX9_beginsBall_113 : decode cX9_beginsBall 113 = .ok (.bipush 10, 2) := by decide +kernel
theorem dX9_beginsBall_115 : decode cX9_beginsBall 115 = .ok (.iconst 0, 1) := by decide +kernel
theorem dX9_beginsBall_116 : decode cX9_beginsBall 116 = .ok (.iastore, 1) := by decide +kernel
theorem dX9_beginsBall_117 : decode cX9_beginsBall 117 = .ok (.aload_n 0, 1) := by decide +kernel
theorem dX9_beginsBall_118 : decode cX9_beginsBall 118 = .ok (.getfield 7, 3) := by decide +kernel
theorem dX9_beginsBall_121 : decode cX9_beginsBall 121 = .ok (.bipush 11, 2) := by decide +kernel
theorem dX9_beginsBall_123 : decode cX9_beginsBall 123 = .ok (.iconst 0, 1) := by decide +kernel
theorem dX9_beginsBall_124 : decode cX9_beginsBall 124 = .ok (.iastore, 1) := by decide +kernel
theorem dX9_beginsBall_125 : decode cX9_beginsBall 125 = .ok (.aload_n 0, 1) := by decide +kernel
theorem dX9_beginsBall_126 : decode cX9_beginsBall 126 = .ok (.getfield 7, 3) := by decide +kernel
theorem dX9_beginsBall_129 : decode cX9_beginsBall 129 = .ok (.bipush 12, 2) := by decide +kernel
theorem dX9_beginsBall_131 : decode cX9_beginsBall 131 = .ok (.iconst 0, 1) := by decide +kernel
theorem dX9_beginsBall_132 : decode cX9_beginsBall 132 = .ok (.iastore, 1) := by decide +kernel
theorem dX9_beginsBall_133 : decode cX9_beginsBall 133 = .ok (.return_, 1) := by decide +kernel
theorem dX9_cannotStart_0 : decode cX9_cannotStart 0 = .ok (.aload_n 0, 1) := by decide +kernel
theorem dX9_cannotStart_1 : decode cX9_cannotStart 1 = .ok (.invokevirtual 76, 3) := by decide +kernel
theorem dX9_cannotStart_4 : decode cX9_cannotStart 4 = .ok (.ifCond .eq 7, 3) := by decide +kernel
theorem dX9_cannotStart_7 : decode cX9_cannotStart 7 = .ok (.iconst 1, 1) := by decide +kernel
theorem dX9_cannotStart_8 : decode cX9_cannotStart 8 = .ok (.goto 17, 3) := by decide +kernel
theorem dX9_cannotStart_11 : decode cX9_cannotStart 11 = .ok (.aload_n 0, 1) := by decide +kernel
theorem dX9_cannotStart_12 : decode cX9_cannotStart 12 = .ok (.getfield 7, 3) := by decide +kernel
theorem dX9_cannotStart_15 : decode cX9_cannotStart 15 = .ok (.iconst 2, 1) := by decide +kernel
theorem dX9_cannotStart_16 : decode cX9_cannotStart 16 = .ok (.iaload, 1) := by decide +kernel
theorem dX9_cannotStart_17 : decode cX9_cannotStart 17 = .ok (.ifCond .ne 7, 3) := by decide +kernel
theorem dX9_cannotStart_20 : decode cX9_cannotStart 20 = .ok (.iconst 2, 1) := by decide +kernel
theorem dX9_cannotStart_21 : decode cX9_cannotStart 21 = .ok (.goto 4, 3) := by decide +kernel
theorem dX9_cannotStart_24 : decode cX9_cannotStart 24 = .ok (.iconst 0, 1) := by decide +kernel
theorem dX9_cannotStart_25 : decode cX9_cannotStart 25 = .ok (.ireturn, 1) := by decide +kernel
theorem dX9_starts_0 : decode cX9_starts 0 = .ok (.iconst 0, 1) := by decide +kernel
theorem dX9_starts_1 : decode cX9_starts 1 = .ok (.istore_n 1, 1) := by decide +kernel
theorem dX9_starts_2 : decode cX9_starts 2 = .ok (.iload_n 1, 1) := by decide +kernel
theorem dX9_starts_3 : decode cX9_starts 3 = .ok (.iconst 4, 1) := by decide +kernel
theorem dX9_starts_4 : decode cX9_starts 4 = .ok (.if_icmp .ge 39, 3) := by decide +kernel
theorem dX9_starts_7 : decode cX9_starts 7 = .ok (.aload_n 0, 1) := by decide +kernel
theorem dX9_starts_8 : decode cX9_starts 8 = .ok (.getfield 7, 3) := by decide +kernel
theorem dX9_starts_11 : decode cX9_starts 11 = .ok (.bipush 30, 2) := by decide +kernel
theorem dX9_starts_13 : decode cX9_starts 13 = .ok (.iload_n 1, 1) := by decide +kernel
theorem dX9_starts_14 : decode cX9_starts 14 = .ok (.iadd, 1) := by decide +kernel
theorem dX9_starts_15 : decode cX9_starts 15 = .ok (.iconst 0, 1) := by decide +kernel
theorem dX9_starts_16 : decode cX9_starts 16 = .ok (.iastore, 1) := by decide +kernel
theorem dX9_starts_17 : decode cX9_starts 17 = .ok (.aload_n 0, 1) := by decide +kernel
theorem dX9_starts_18 : decode cX9_starts 18 = .ok (.getfield 7, 3) := by decide +kernel
theorem dX9_starts_21 : decode cX9_starts 21 = .ok (.bipush 34, 2) := by decide +kernel
theorem dX9_starts_23 : decode cX9_starts 23 = .ok (.iload_n 1, 1) := by decide +kernel
theorem dX9_starts_24 : decode cX9_starts 24 = .ok (.iadd, 1) := by decide +kernel
theorem dX9_starts_25 : decode cX9_starts 25 = .ok (.iconst 0, 1) := by decide +kernel
theorem dX9_starts_26 : decode cX9_starts 26 = .ok (.iastore, 1) := by decide +kernel
theorem dX9_starts_27 : decode cX9_starts 27 = .ok (.aload_n 0, 1) := by decide +kernel
theorem dX9_starts_28 : decode cX9_starts 28 = .ok (.getfield 7, 3) := by decide +kernel
theorem dX9_starts_31 : decode cX9_starts 31 = .ok (.bipush 38, 2) := by decide +kernel
theorem dX9_starts_33 : decode cX9_starts 33 = .ok (.iload_n 1, 1) := by decide +kernel
theorem dX9_starts_34 : decode cX9_starts 34 = .ok (.iadd, 1) := by decide +kernel
theorem dX9_starts_35 : decode cX9_starts 35 = .ok (.iconst 0, 1) := by decide +kernel
theorem dX9_starts_36 : decode cX9_starts 36 = .ok (.iastore, 1) := by decide +kernel
theorem dX9_starts_37 : decode cX9_starts 37 = .ok (.iinc 1 1, 3) := by decide +kernel
theorem dX9_starts_40 : decode cX9_starts 40 = .ok (.goto (-38), 3) := by decide +kernel
theorem dX9_starts_43 : decode cX9_starts 43 = .ok (.aload_n 0, 1) := by decide +kernel
theorem dX9_starts_44 : decode cX9_starts 44 = .ok (.getfield 7, 3) := by decide +kernel
theorem dX9_starts_47 : decode cX9_starts 47 = .ok (.iconst 0, 1) := by decide +kernel
theorem dX9_starts_48 : decode cX9_starts 48 = .ok (.iconst 1, 1) := by decide +kernel
theorem dX9_starts_49 : decode cX9_starts 49 = .ok (.iastore, 1) := by decide +kernel
theorem dX9_starts_50 : decode cX9_starts 50 = .ok (.aload_n 0, 1) := by decide +kernel
theorem dX9_starts_51 : decode cX9_starts 51 = .ok (.getfield 7, 3) := by decide +kernel
theorem dX9_starts_54 : decode cX9_starts 54 = .ok (.iconst 3, 1) := by decide +kernel
theorem dX9_starts_55 : decode cX9_starts 55 = .ok (.iconst 0, 1) := by decide +kernel
theorem dX9_starts_56 : decode cX9_starts 56 = .ok (.iastore, 1) := by decide +kernel
theorem dX9_starts_57 : decode cX9_starts 57 = .ok (.aload_n 0, 1) := by decide +kernel
theorem dX9_starts_58 : decode cX9_starts 58 = .ok (.getfield 7, 3) := by decide +kernel
theorem dX9_starts_61 : decode cX9_starts 61 = .ok (.iconst 4, 1) := by decide +kernel
theorem dX9_starts_62 : decode cX9_starts 62 = .ok (.iconst 1, 1) := by decide +kernel
theorem dX9_starts_63 : decode cX9_starts 63 = .ok (.iastore, 1) := by decide +kernel
theorem dX9_starts_64 : decode cX9_starts 64 = .ok (.aload_n 0, 1) := by decide +kernel
theorem dX9_starts_65 : decode cX9_starts 65 = .ok (.getfield 7, 3) := by decide +kernel
theorem dX9_starts_68 : decode cX9_starts 68 = .ok (.iconst 1, 1) := by decide +kernel
theorem dX9_starts_69 : decode cX9_starts 69 = .ok (.dup2, 1) := by decide +kernel
theorem dX9_starts_70 : decode cX9_starts 70 = .ok (.iaload, 1) := by decide +kernel
theorem dX9_starts_71 : decode cX9_starts 71 = .ok (.iconst 1, 1) := by decide +kernel
theorem dX9_starts_72 : decode cX9_starts 72 = .ok (.iadd, 1) := by decide +kernel
theorem dX9_starts_73 : decode cX9_starts 73 = .ok (.iastore, 1) := by decide +kernel
theorem dX9_starts_74 : decode cX9_starts 74 = .ok (.aload_n 0, 1) := by decide +kernel
theorem dX9_starts_75 : decode cX9_starts 75 = .ok (.invokevirtual 97, 3) := by decide +kernel
theorem dX9_starts_78 : decode cX9_starts 78 = .ok (.aload_n 0, 1) := by decide +kernel
theorem dX9_starts_79 : decode cX9_starts 79 = .ok (.getfield 7, 3) := by decide +kernel
theorem dX9_starts_82 : decode cX9_starts 82 = .ok (.iconst 1, 1) := by decide +kernel
theorem dX9_starts_83 : decode cX9_starts 83 = .ok (.iaload, 1) := by decide +kernel
theorem dX9_starts_84 : decode cX9_starts 84 = .ok (.ireturn, 1) := by decide +kernel
theorem dX9_startGame_0 : decode cX9_startGame 0 = .ok (.aload_n 0, 1) := by decide +kernel
theorem dX9_startGame_1 : decode cX9_startGame 1 = .ok (.invokevirtual 80, 3) := by decide +kernel
theorem dX9_startGame_4 : decode cX9_startGame 4 = .ok (.aload_n 0, 1) := by decide +kernel
theorem dX9_startGame_5 : decode cX9_startGame 5 = .ok (.invokevirtual 100, 3) := by decide +kernel
theorem dX9_startGame_8 : decode cX9_startGame 8 = .ok (.istore_n 1, 1) := by decide +kernel
theorem dX9_startGame_9 : decode cX9_startGame 9 = .ok (.iload_n 1, 1) := by decide +kernel
theorem dX9_startGame_10 : decode cX9_startGame 10 = .ok (.ifCond .le 11, 3) := by decide +kernel
theorem dX9_startGame_13 : decode cX9_startGame 13 = .ok (.aload_n 0, 1) := by decide +kernel
theorem dX9_startGame_14 : decode cX9_startGame 14 = .ok (.iload_n 1, 1) := by decide +kernel
theorem dX9_startGame_15 : decode cX9_startGame 15 = .ok (.invokevirtual 87, 3) := by decide +kernel
theorem dX9_startGame_18 : decode cX9_startGame 18 = .ok (.goto 11, 3) := by decide +kernel
theorem dX9_startGame_21 : decode cX9_startGame 21 = .ok (.aload_n 0, 1) := by decide +kernel
theorem dX9_startGame_22 : decode cX9_startGame 22 = .ok (.aload_n 0, 1) := by decide +kernel
theorem dX9_startGame_23 : decode cX9_startGame 23 = .ok (.invokevirtual 103, 3) := by decide +kernel
theorem dX9_startGame_26 : decode cX9_startGame 26 = .ok (.invokevirtual 94, 3) := by decide +kernel
theorem dX9_startGame_29 : decode cX9_startGame 29 = .ok (.ireturn, 1) := by decide +kernel
theorem dX9_quits_0 : decode cX9_quits 0 = .ok (.aload_n 0, 1) := by decide +kernel
theorem dX9_quits_1 : decode cX9_quits 1 = .ok (.getfield 7, 3) := by decide +kernel
theorem dX9_quits_4 : decode cX9_quits 4 = .ok (.iconst 0, 1) := by decide +kernel
theorem dX9_quits_5 : decode cX9_quits 5 = .ok (.iconst 0, 1) := by decide +kernel
theorem dX9_quits_6 : decode cX9_quits 6 = .ok (.iastore, 1) := by decide +kernel
theorem dX9_quits_7 : decode cX9_quits 7 = .ok (.aload_n 0, 1) := by decide +kernel
theorem dX9_quits_8 : decode cX9_quits 8 = .ok (.getfield 7, 3) := by decide +kernel
theorem dX9_quits_11 : decode cX9_quits 11 = .ok (.iconst 3, 1) := by decide +kernel
theorem dX9_quits_12 : decode cX9_quits 12 = .ok (.iaload, 1) := by decide +kernel
theorem dX9_quits_13 : decode cX9_quits 13 = .ok (.ireturn, 1) := by decide +kernel
theorem dX9_quitGame_0 : decode cX9_quitGame 0 = .ok (.aload_n 0, 1) := by decide +kernel
theorem dX9_quitGame_1 : decode cX9_quitGame 1 = .ok (.invokevirtual 80, 3) := by decide +kernel
theorem dX9_quitGame_4 : decode cX9_quitGame 4 = .ok (.aload_n 0, 1) := by decide +kernel
theorem dX9_quitGame_5 : decode cX9_quitGame 5 = .ok (.invokevirtual 76, 3) := by decide +kernel
theorem dX9_quitGame_8 : decode cX9_quitGame 8 = .ok (.ifCond .eq 14, 3) := by decide +kernel
theorem dX9_quitGame_11 : decode cX9_quitGame 11 = .ok (.aload_n 0, 1) := by decide +kernel
theorem dX9_quitGame_12 : decode cX9_quitGame 12 = .ok (.aload_n 0, 1) := by decide +kernel
theorem dX9_quitGame_13 : decode cX9_quitGame 13 = .ok (.invokevirtual 106, 3) := by decide +kernel
theorem dX9_quitGame_16 : decode cX9_quitGame 16 = .ok (.invokevirtual 94, 3) := by decide +kernel
theorem dX9_quitGame_19 : decode cX9_quitGame 19 = .ok (.goto 8, 3) := by decide +kernel
theorem dX9_quitGame_22 : decode cX9_quitGame 22 = .ok (.aload_n 0, 1) := by decide +kernel
theorem dX9_quitGame_23 : decode cX9_quitGame 23 = .ok (.iconst 1, 1) := by decide +kernel
theorem dX9_quitGame_24 : decode cX9_quitGame 24 = .ok (.invokevirtual 87, 3) := by decide +kernel
theorem dX9_quitGame_27 : decode cX9_quitGame 27 = .ok (.ireturn, 1) := by decide +kernel
theorem dX9_givesExtra_0 : decode cX9_givesExtra 0 = .ok (.aload_n 0, 1) := by decide +kernel
theorem dX9_givesExtra_1 : decode cX9_givesExtra 1 = .ok (.getfield 7, 3) := by decide +kernel
theorem dX9_givesExtra_4 : decode cX9_givesExtra 4 = .ok (.bipush 34, 2) := by decide +kernel
theorem dX9_givesExtra_6 : decode cX9_givesExtra 6 = .ok (.iload_n 1, 1) := by decide +kernel
theorem dX9_givesExtra_7 : decode cX9_givesExtra 7 = .ok (.iadd, 1) := by decide +kernel
theorem dX9_givesExtra_8 : decode cX9_givesExtra 8 = .ok (.dup2, 1) := by decide +kernel
theorem dX9_givesExtra_9 : decode cX9_givesExtra 9 = .ok (.iaload, 1) := by decide +kernel
theorem dX9_givesExtra_10 : decode cX9_givesExtra 10 = .ok (.aload_n 0, 1) := by decide +kernel
theorem dX9_givesExtra_11 : decode cX9_givesExtra 11 = .ok (.getfield 7, 3) := by decide +kernel
theorem dX9_givesExtra_14 : decode cX9_givesExtra 14 = .ok (.bipush 34, 2) := by decide +kernel
theorem dX9_givesExtra_16 : decode cX9_givesExtra 16 = .ok (.iload_n 1, 1) := by decide +kernel
theorem dX9_givesExtra_17 : decode cX9_givesExtra 17 = .ok (.iadd, 1) := by decide +kernel
theorem dX9_givesExtra_18 : decode cX9_givesExtra 18 = .ok (.iaload, 1) := by decide +kernel
theorem dX9_givesExtra_19 : decode cX9_givesExtra 19 = .ok (.iconst 3, 1) := by decide +kernel
theorem dX9_givesExtra_20 : decode cX9_givesExtra 20 = .ok (.if_icmp .ge 7, 3) := by decide +kernel
theorem dX9_givesExtra_23 : decode cX9_givesExtra 23 = .ok (.iconst 1, 1) := by decide +kernel
theorem dX9_givesExtra_24 : decode cX9_givesExtra 24 = .ok (.goto 4, 3) := by decide +kernel
theorem dX9_givesExtra_27 : decode cX9_givesExtra 27 = .ok (.iconst 0, 1) := by decide +kernel
theorem dX9_givesExtra_28 : decode cX9_givesExtra 28 = .ok (.iadd, 1) := by decide +kernel
theorem dX9_givesExtra_29 : decode cX9_givesExtra 29 = .ok (.iastore, 1) := by decide +kernel
theorem dX9_givesExtra_30 : decode cX9_givesExtra 30 = .ok (.return_, 1) := by decide +kernel
theorem dX9_scores_0 : decode cX9_scores 0 = .ok (.iload_n 2, 1) := by decide +kernel
theorem dX9_scores_1 : decode cX9_scores 1 = .ok (.aload_n 0, 1) := by decide +kernel
theorem dX9_scores_2 : decode cX9_scores 2 = .ok (.getfield 7, 3) := by decide +kernel
theorem dX9_scores_5 : decode cX9_scores 5 = .ok (.iconst 5, 1) := by decide +kernel
theorem dX9_scores_6 : decode cX9_scores 6 = .ok (.iaload, 1) := by decide +kernel
theorem dX9_scores_7 : decode cX9_scores 7 = .ok (.imul, 1) := by decide +kernel
theorem dX9_scores_8 : decode cX9_scores 8 = .ok (.istore_n 3, 1) := by decide +kernel
theorem dX9_scores_9 : decode cX9_scores 9 = .ok (.aload_n 0, 1) := by decide +kernel
theorem dX9_scores_10 : decode cX9_scores 10 = .ok (.getfield 7, 3) := by decide +kernel
theorem dX9_scores_13 : decode cX9_scores 13 = .ok (.iconst 3, 1) := by decide +kernel
theorem dX9_scores_14 : decode cX9_scores 14 = .ok (.iaload, 1) := by decide +kernel
theorem dX9_scores_15 : decode cX9_scores 15 = .ok (.istore 4, 2) := by decide +kernel
theorem dX9_scores_17 : decode cX9_scores 17 = .ok (.aload_n 0, 1) := by decide +kernel
theorem dX9_scores_18 : decode cX9_scores 18 = .ok (.getfield 7, 3) := by decide +kernel
theorem dX9_scores_21 : decode cX9_scores 21 = .ok (.bipush 42, 2) := by decide +kernel
theorem dX9_scores_23 : decode cX9_scores 23 = .ok (.iload_n 1, 1) := by decide +kernel
theorem dX9_scores_24 : decode cX9_scores 24 = .ok (.iadd, 1) := by decide +kernel
theorem dX9_scores_25 : decode cX9_scores 25 = .ok (.dup2, 1) := by decide +kernel
theorem dX9_scores_26 : decode cX9_scores 26 = .ok (.iaload, 1) := by decide +kernel
theorem dX9_scores_27 : decode cX9_scores 27 = .ok (.iload_n 3, 1) := by decide +kernel
theorem dX9_scores_28 : decode cX9_scores 28 = .ok (.iadd, 1) := by decide +kernel
theorem dX9_scores_29 : decode cX9_scores 29 = .ok (.iastore, 1) := by decide +kernel
theorem dX9_scores_30 : decode cX9_scores 30 = .ok (.aload_n 0, 1) := by decide +kernel
theorem dX9_scores_31 : decode cX9_scores 31 = .ok (.getfield 7, 3) := by decide +kernel
theorem dX9_scores_34 : decode cX9_scores 34 = .ok (.bipush 30, 2) := by decide +kernel
theorem dX9_scores_36 : decode cX9_scores 36 = .ok (.iload 4, 2) := by decide +kernel
theorem dX9_scores_38 : decode cX9_scores 38 = .ok (.iadd, 1) := by decide +kernel
theorem dX9_scores_39 : decode cX9_scores 39 = .ok (.dup2, 1) := by decide +kernel
theorem dX9_scores_40 : decode cX9_scores 40 = .ok (.iaload, 1) := by decide +kernel
theorem dX9_scores_41 : decode cX9_scores 41 = .ok (.iload_n 3, 1) := by decide +kernel
theorem dX9_scores_42 : decode cX9_scores 42 = .ok (.iadd, 1) := by decide +kernel
theorem dX9_scores_43 : decode cX9_scores 43 = .ok (.iastore, 1) := by decide +kernel
theorem dX9_scores_44 : decode cX9_scores 44 = .ok (.aload_n 0, 1) := by decide +kernel
theorem dX9_scores_45 : decode cX9_scores 45 = .ok (.getfield 7, 3) := by decide +kernel
theorem dX9_scores_48 : decode cX9_scores 48 = .ok (.bipush 30, 2) := by decide +kernel
theorem dX9_scores_50 : decode cX9_scores 50 = .ok (.iload 4, 2) := by decide +kernel
theorem dX9_scores_52 : decode cX9_scores 52 = .ok (.iadd, 1) := by decide +kernel
theorem dX9_scores_53 : decode cX9_scores 53 = .ok (.iaload, 1) := by decide +kernel
theorem dX9_scores_54 : decode cX9_scores 54 = .ok (.sipush 5000, 3) := by decide +kernel
theorem dX9_scores_57 : decode cX9_scores 57 = .ok (.if_icmp .lt 33, 3) := by decide +kernel
theorem dX9_scores_60 : decode cX9_scores 60 = .ok (.aload_n 0, 1) := by decide +kernel
theorem dX9_scores_61 : decode cX9_scores 61 = .ok (.getfield 7, 3) := by decide +kernel
theorem dX9_scores_64 : decode cX9_scores 64 = .ok (.bipush 38, 2) := by decide +kernel
theorem dX9_scores_66 : decode cX9_scores 66 = .ok (.iload 4, 2) := by decide +kernel
theorem dX9_scores_68 : decode cX9_scores 68 = .ok (.iadd, 1) := by decide +kernel
theorem dX9_scores_69 : decode cX9_scores 69 = .ok (.iaload, 1) := by decide +kernel
theorem dX9_scores_70 : decode cX9_scores 70 = .ok (.ifCond .ne 20, 3) := by decide +kernel
theorem dX9_scores_73 : decode cX9_scores 73 = .ok (.aload_n 0, 1) := by decide +kernel
theorem dX9_scores_74 : decode cX9_scores 74 = .ok (.getfield 7, 3) := by decide +kernel
theorem dX9_scores_77 : decode cX9_scores 77 = .ok (.bipush 38, 2) := by decide +kernel
theorem dX9_scores_79 : decode cX9_scores 79 = .ok (.iload 4, 2) := by decide +kernel
theorem dX9_scores_81 : decode cX9_scores 81 = .ok (.iadd, 1) := by decide +kernel
theorem dX9_scores_82 : decode cX9_scores 82 = .ok (.iconst 1, 1) := by decide +kernel
theorem dX9_scores_83 : decode cX9_scores 83 = .ok (.iastore, 1) := by decide +kernel
theorem dX9_scores_84 : decode cX9_scores 84 = .ok (.aload_n 0, 1) := by decide +kernel
theorem dX9_scores_85 : decode cX9_scores 85 = .ok (.iload 4, 2) := by decide +kernel
theorem dX9_scores_87 : decode cX9_scores 87 = .ok (.invokevirtual 109, 3) := by decide +kernel
theorem dX9_scores_90 : decode cX9_scores 90 = .ok (.iload_n 3, 1) := by decide +kernel
theorem dX9_scores_91 : decode cX9_scores 91 = .ok (.ireturn, 1) := by decide +kernel
theorem dX9_counts_0 : decode cX9_counts 0 = .ok (.aload_n 0, 1) := by decide +kernel
theorem dX9_counts_1 : decode cX9_counts 1 = .ok (.getfield 7, 3) := by decide +kernel
theorem dX9_counts_4 : decode cX9_counts 4 = .ok (.bipush 10, 2) := by decide +kernel
theorem dX9_counts_6 : decode cX9_counts 6 = .ok (.dup2, 1) := by decide +kernel
theorem dX9_counts_7 : decode cX9_counts 7 = .ok (.iaload, 1) := by decide +kernel
theorem dX9_counts_8 : decode cX9_counts 8 = .ok (.iconst 1, 1) := by decide +kernel
theorem dX9_counts_9 : decode cX9_counts 9 = .ok (.iadd, 1) := by decide +kernel
theorem dX9_counts_10 : decode cX9_counts 10 = .ok (.iastore, 1) := by decide +kernel
theorem dX9_counts_11 : decode cX9_counts 11 = .ok (.aload_n 0, 1) := by decide +kernel
theorem dX9_counts_12 : decode cX9_counts 12 = .ok (.invokevirtual 113, 3) := by decide +kernel
theorem dX9_counts_15 : decode cX9_counts 15 = .ok (.ifCond .eq 5, 3) := by decide +kernel
theorem dX9_counts_18 : decode cX9_counts 18 = .ok (.iconst 0, 1) := by decide +kernel
theorem dX9_counts_19 : decode cX9_counts 19 = .ok (.ireturn, 1) := by decide +kernel
theorem dX9_counts_20 : decode cX9_counts 20 = .ok (.aload_n 0, 1) := by decide +kernel
theorem dX9_counts_21 : decode cX9_counts 21 = .ok (.getfield 7, 3) := by decide +kernel
theorem dX9_counts_24 : decode cX9_counts 24 = .ok (.bipush 8, 2) := by decide +kernel
theorem dX9_counts_26 : decode cX9_counts 26 = .ok (.dup2, 1) := by decide +kernel
theorem dX9_counts_27 : decode cX9_counts 27 = .ok (.iaload, 1) := by decide +kernel
theorem dX9_counts_28 : decode cX9_counts 28 = .ok (.aload_n 0, 1) := by decide +kernel
theorem dX9_counts_29 : decode cX9_counts 29 = .ok (.getfield 7, 3) := by decide +kernel
theorem dX9_counts_32 : decode cX9_counts 32 = .ok (.bipush 8, 2) := by decide +kernel
theorem dX9_counts_34 : decode cX9_counts 34 = .ok (.iaload, 1) := by decide +kernel
theorem dX9_counts_35 : decode cX9_counts 35 = .ok (.ifCond .le 7, 3) := by decide +kernel
theorem dX9_counts_38 : decode cX9_counts 38 = .ok (.iconst 1, 1) := by decide +kernel
theorem dX9_counts_39 : decode cX9_counts 39 = .ok (.goto 4, 3) := by decide +kernel
theorem dX9_counts_42 : decode cX9_counts 42 = .ok (.iconst 0, 1) := by decide +kernel
theorem dX9_counts_43 : decode cX9_counts 43 = .ok (.isub, 1) := by decide +kernel
theorem dX9_counts_44 : decode cX9_counts 44 = .ok (.iastore, 1) := by decide +kernel
theorem dX9_counts_45 : decode cX9_counts 45 = .ok (.iconst 1, 1) := by decide +kernel
theorem dX9_counts_46 : decode cX9_counts 46 = .ok (.ireturn, 1) := by decide +kernel
theorem dX9_isFull_0 : decode cX9_isFull 0 = .ok (.iconst 0, 1) := by decide +kernel
theorem dX9_isFull_1 : decode cX9_isFull 1 = .ok (.istore_n 3, 1) := by decide +kernel
theorem dX9_isFull_2 : decode cX9_isFull 2 = .ok (.iload_n 3, 1) := by decide +kernel
theorem dX9_isFull_3 : decode cX9_isFull 3 = .ok (.iload_n 2, 1) := by decide +kernel
theorem dX9_isFull_4 : decode cX9_isFull 4 = .ok (.if_icmp .ge 22, 3) := by decide +kernel
theorem dX9_isFull_7 : decode cX9_isFull 7 = .ok (.aload_n 0, 1) := by decide +kernel
theorem dX9_isFull_8 : decode cX9_isFull 8 = .ok (.getfield 7, 3) := by decide +kernel
theorem dX9_isFull_11 : decode cX9_isFull 11 = .ok (.iload_n 1, 1) := by decide +kernel
theorem dX9_isFull_12 : decode cX9_isFull 12 = .ok (.iload_n 3, 1) := by decide +kernel
theorem dX9_isFull_13 : decode cX9_isFull 13 = .ok (.iadd, 1) := by decide +kernel
theorem dX9_isFull_14 : decode cX9_isFull 14 = .ok (.iaload, 1) := by decide +kernel
theorem dX9_isFull_15 : decode cX9_isFull 15 = .ok (.ifCond .ne 5, 3) := by decide +kernel
theorem dX9_isFull_18 : decode cX9_isFull 18 = .ok (.iconst 0, 1) := by decide +kernel
theorem dX9_isFull_19 : decode cX9_isFull 19 = .ok (.ireturn, 1) := by decide +kernel
theorem dX9_isFull_20 : decode cX9_isFull 20 = .ok (.iinc 3 1, 3) := by decide +kernel
theorem dX9_isFull_23 : decode cX9_isFull 23 = .ok (.goto (-21), 3) := by decide +kernel
theorem dX9_isFull_26 : decode cX9_isFull 26 = .ok (.iconst 0, 1) := by decide +kernel
theorem dX9_isFull_27 : decode cX9_isFull 27 = .ok (.istore_n 3, 1) := by decide +kernel
theorem dX9_isFull_28 : decode cX9_isFull 28 = .ok (.iload_n 3, 1) := by decide +kernel
theorem dX9_isFull_29 : decode cX9_isFull 29 = .ok (.iload_n 2, 1) := by decide +kernel
theorem dX9_isFull_30 : decode cX9_isFull 30 = .ok (.if_icmp .ge 18, 3) := by decide +kernel
theorem dX9_isFull_33 : decode cX9_isFull 33 = .ok (.aload_n 0, 1) := by decide +kernel
theorem dX9_isFull_34 : decode cX9_isFull 34 = .ok (.getfield 7, 3) := by decide +kernel
theorem dX9_isFull_37 : decode cX9_isFull 37 = .ok (.iload_n 1, 1) := by decide +kernel
theorem dX9_isFull_38 : decode cX9_isFull 38 = .ok (.iload_n 3, 1) := by decide +kernel
theorem dX9_isFull_39 : decode cX9_isFull 39 = .ok (.iadd, 1) := by decide +kernel
theorem dX9_isFull_40 : decode cX9_isFull 40 = .ok (.iconst 0, 1) := by decide +kernel
theorem dX9_isFull_41 : decode cX9_isFull 41 = .ok (.iastore, 1) := by decide +kernel
theorem dX9_isFull_42 : decode cX9_isFull 42 = .ok (.iinc 3 1, 3) := by decide +kernel
theorem dX9_isFull_45 : decode cX9_isFull 45 = .ok (.goto (-17), 3) := by decide +kernel
theorem dX9_isFull_48 : decode cX9_isFull 48 = .ok (.iconst 1, 1) := by decide +kernel
theorem dX9_isFull_49 : decode cX9_isFull 49 = .ok (.ireturn, 1) := by decide +kernel
theorem dX9_hitsLane_0 : decode cX9_hitsLane 0 = .ok (.aload_n 0, 1) := by decide +kernel
theorem dX9_hitsLane_1 : decode cX9_hitsLane 1 = .ok (.invokevirtual 116, 3) := by decide +kernel
theorem dX9_hitsLane_4 : decode cX9_hitsLane 4 = .ok (.ifCond .ne 5, 3) := by decide +kernel
theorem dX9_hitsLane_7 : decode cX9_hitsLane 7 = .ok (.iconst 0, 1) := by decide +kernel
theorem dX9_hitsLane_8 : decode cX9_hitsLane 8 = .ok (.ireturn, 1) := by decide +kernel
theorem dX9_hitsLane_9 : decode cX9_hitsLane 9 = .ok (.aload_n 0, 1) := by decide +kernel
theorem dX9_hitsLane_10 : decode cX9_hitsLane 10 = .ok (.iconst 0, 1) := by decide +kernel
theorem dX9_hitsLane_11 : decode cX9_hitsLane 11 = .ok (.aload_n 0, 1) := by decide +kernel
theorem dX9_hitsLane_12 : decode cX9_hitsLane 12 = .ok (.getfield 7, 3) := by decide +kernel
theorem dX9_hitsLane_15 : decode cX9_hitsLane 15 = .ok (.bipush 16, 2) := by decide +kernel
theorem dX9_hitsLane_17 : decode cX9_hitsLane 17 = .ok (.iload_n 1, 1) := by decide +kernel
theorem dX9_hitsLane_18 : decode cX9_hitsLane 18 = .ok (.iadd, 1) := by decide +kernel
theorem dX9_hitsLane_19 : decode cX9_hitsLane 19 = .ok (.iaload, 1) := by decide +kernel
theorem dX9_hitsLane_20 : decode cX9_hitsLane 20 = .ok (.iconst 1, 1) := by decide +kernel
theorem dX9_hitsLane_21 : decode cX9_hitsLane 21 = .ok (.if_icmp .ne 8, 3) := by decide +kernel
theorem dX9_hitsLane_24 : decode cX9_hitsLane 24 = .ok (.bipush 10, 2) := by decide +kernel
theorem dX9_hitsLane_26 : decode cX9_hitsLane 26 = .ok (.goto 5, 3) := by decide +kernel
theorem dX9_hitsLane_29 : decode cX9_hitsLane 29 = .ok (.bipush 100, 2) := by decide +kernel
theorem dX9_hitsLane_31 : decode cX9_hitsLane 31 = .ok (.invokevirtual 119, 3) := by decide +kernel
theorem dX9_hitsLane_34 : decode cX9_hitsLane 34 = .ok (.istore_n 2, 1) := by decide +kernel
theorem dX9_hitsLane_35 : decode cX9_hitsLane 35 = .ok (.aload_n 0, 1) := by decide +kernel
theorem dX9_hitsLane_36 : decode cX9_hitsLane 36 = .ok (.getfield 7, 3) := by decide +kernel
theorem dX9_hitsLane_39 : decode cX9_hitsLane 39 = .ok (.bipush 16, 2) := by decide +kernel
theorem dX9_hitsLane_41 : decode cX9_hitsLane 41 = .ok (.iload_n 1, 1) := by decide +kernel
theorem dX9_hitsLane_42 : decode cX9_hitsLane 42 = .ok (.iadd, 1) := by decide +kernel
theorem dX9_hitsLane_43 : decode cX9_hitsLane 43 = .ok (.iconst 1, 1) := by decide +kernel
theorem dX9_hitsLane_44 : decode cX9_hitsLane 44 = .ok (.iastore, 1) := by decide +kernel
theorem dX9_hitsLane_45 : decode cX9_hitsLane 45 = .ok (.aload_n 0, 1) := by decide +kernel
theorem dX9_hitsLane_46 : decode cX9_hitsLane 46 = .ok (.bipush 16, 2) := by decide +kernel
theorem dX9_hitsLane_48 : decode cX9_hitsLane 48 = .ok (.iconst 4, 1) := by decide +kernel
theorem dX9_hitsLane_49 : decode cX9_hitsLane 49 = .ok (.invokevirtual 123, 3) := by decide +kernel
theorem dX9_hitsLane_52 : decode cX9_hitsLane 52 = .ok (.ifCond .eq 28, 3) := by decide +kernel
theorem dX9_hitsLane_55 : decode cX9_hitsLane 55 = .ok (.aload_n 0, 1) := by decide +kernel
theorem dX9_hitsLane_56 : decode cX9_hitsLane 56 = .ok (.getfield 7, 3) := by decide +kernel
theorem dX9_hitsLane_59 : decode cX9_hitsLane 59 = .ok (.iconst 5, 1) := by decide +kernel
theorem dX9_hitsLane_60 : decode cX9_hitsLane 60 = .ok (.dup2, 1) := by decide +kernel
theorem dX9_hitsLane_61 : decode cX9_hitsLane 61 = .ok (.iaload, 1) := by decide +kernel
theorem dX9_hitsLane_62 : decode cX9_hitsLane 62 = .ok (.aload_n 0, 1) := by decide +kernel
theorem dX9_hitsLane_63 : decode cX9_hitsLane 63 = .ok (.getfield 7, 3) := by decide +kernel
theorem dX9_hitsLane_66 : decode cX9_hitsLane 66 = .ok (.iconst 5, 1) := by decide +kernel
theorem dX9_hitsLane_67 : decode cX9_hitsLane 67 = .ok (.iaload, 1) := by decide +kernel
theorem dX9_hitsLane_68 : decode cX9_hitsLane 68 = .ok (.bipush 6, 2) := by decide +kernel
theorem dX9_hitsLane_70 : decode cX9_hitsLane 70 = .ok (.if_icmp .ge 7, 3) := by decide +kernel
theorem dX9_hitsLane_73 : decode cX9_hitsLane 73 = .ok (.iconst 1, 1) := by decide +kernel
theorem dX9_hitsLane_74 : decode cX9_hitsLane 74 = .ok (.goto 4, 3) := by decide +kernel
theorem dX9_hitsLane_77 : decode cX9_hitsLane 77 = .ok (.iconst 0, 1) := by decide +kernel
theorem dX9_hitsLane_78 : decode cX9_hitsLane 78 = .ok (.iadd, 1) := by decide +kernel
theorem dX9_hitsLane_79 : decode cX9_hitsLane 79 = .ok (.iastore, 1) := by decide +kernel
theorem dX9_hitsLane_80 : decode cX9_hitsLane 80 = .ok (.iload_n 2, 1) := by decide +kernel
theorem dX9_hitsLane_81 : decode cX9_hitsLane 81 = .ok (.ireturn, 1) := by decide +kernel
theorem dX9_hitsBumper_0 : decode cX9_hitsBumper 0 = .ok (.aload_n 0, 1) := by decide +kernel
theorem dX9_hitsBumper_1 : decode cX9_hitsBumper 1 = .ok (.invokevirtual 116, 3) := by decide +kernel
theorem dX9_hitsBumper_4 : decode cX9_hitsBumper 4 = .ok (.ifCond .ne 5, 3) := by decide +kernel
theorem dX9_hitsBumper_7 : decode cX9_hitsBumper 7 = .ok (.iconst 0, 1) := by decide +kernel
theorem dX9_hitsBumper_8 : decode cX9_hitsBumper 8 = .ok (.ireturn, 1) := by decide +kernel
theorem dX9_hitsBumper_9 : decode cX9_hitsBumper 9 = .ok (.aload_n 0, 1) := by decide +kernel
theorem dX9_hitsBumper_10 : decode cX9_hitsBumper 10 = .ok (.iconst 1, 1) := by decide +kernel
theorem dX9_hitsBumper_11 : decode cX9_hitsBumper 11 = .ok (.aload_n 0, 1) := by decide +kernel
theorem dX9_hitsBumper_12 : decode cX9_hitsBumper 12 = .ok (.getfield 7, 3) := by decide +kernel
theorem dX9_hitsBumper_15 : decode cX9_hitsBumper 15 = .ok (.bipush 20, 2) := by decide +kernel
theorem dX9_hitsBumper_17 : decode cX9_hitsBumper 17 = .ok (.iload_n 1, 1) := by decide +kernel
theorem dX9_hitsBumper_18 : decode cX9_hitsBumper 18 = .ok (.iadd, 1) := by decide +kernel
theorem dX9_hitsBumper_19 : decode cX9_hitsBumper 19 = .ok (.iaload, 1) := by decide +kernel
theorem dX9_hitsBumper_20 : decode cX9_hitsBumper 20 = .ok (.invokevirtual 119, 3) := by decide +kernel
theorem dX9_hitsBumper_23 : decode cX9_hitsBumper 23 = .ok (.istore_n 2, 1) := by decide +kernel
theorem dX9_hitsBumper_24 : decode cX9_hitsBumper 24 = .ok (.aload_n 0, 1) := by decide +kernel
theorem dX9_hitsBumper_25 : decode cX9_hitsBumper 25 = .ok (.getfield 7, 3) := by decide +kernel
theorem dX9_hitsBumper_28 : decode cX9_hitsBumper 28 = .ok (.bipush 20, 2) := by decide +kernel
theorem dX9_hitsBumper_30 : decode cX9_hitsBumper 30 = .ok (.iload_n 1, 1) := by decide +kernel
theorem dX9_hitsBumper_31 : decode cX9_hitsBumper 31 = .ok (.iadd, 1) := by decide +kernel
theorem dX9_hitsBumper_32 : decode cX9_hitsBumper 32 = .ok (.dup2, 1) := by decide +kernel
theorem dX9_hitsBumper_33 : decode cX9_hitsBumper 33 = .ok (.iaload, 1) := by decide +kernel
theorem dX9_hitsBumper_34 : decode cX9_hitsBumper 34 = .ok (.aload_n 0, 1) := by decide +kernel
theorem dX9_hitsBumper_35 : decode cX9_hitsBumper 35 = .ok (.getfield 7, 3) := by decide +kernel
theorem dX9_hitsBumper_38 : decode cX9_hitsBumper 38 = .ok (.bipush 20, 2) := by decide +kernel
theorem dX9_hitsBumper_40 : decode cX9_hitsBumper 40 = .ok (.iload_n 1, 1) := by decide +kernel
theorem dX9_hitsBumper_41 : decode cX9_hitsBumper 41 = .ok (.iadd, 1) := by decide +kernel
theorem dX9_hitsBumper_42 : decode cX9_hitsBumper 42 = .ok (.iaload, 1) := by decide +kernel
theorem dX9_hitsBumper_43 : decode cX9_hitsBumper 43 = .ok (.sipush 200, 3) := by decide +kernel
theorem dX9_hitsBumper_46 : decode cX9_hitsBumper 46 = .ok (.if_icmp .ge 8, 3) := by decide +kernel
theorem dX9_hitsBumper_49 : decode cX9_hitsBumper 49 = .ok (.bipush 10, 2) := by decide +kernel
theorem dX9_hitsBumper_51 : decode cX9_hitsBumper 51 = .ok (.goto 4, 3) := by decide +kernel
theorem dX9_hitsBumper_54 : decode cX9_hitsBumper 54 = .ok (.iconst 0, 1) := by decide +kernel
theorem dX9_hitsBumper_55 : decode cX9_hitsBumper 55 = .ok (.iadd, 1) := by decide +kernel
theorem dX9_hitsBumper_56 : decode cX9_hitsBumper 56 = .ok (.iastore, 1) := by decide +kernel
theorem dX9_hitsBumper_57 : decode cX9_hitsBumper 57 = .ok (.iload_n 2, 1) := by decide +kernel
theorem dX9_hitsBumper_58 : decode cX9_hitsBumper 58 = .ok (.ireturn, 1) := by decide +kernel
theorem dX9_hitsTarget_0 : decode cX9_hitsTarget 0 = .ok (.aload_n 0, 1) := by decide +kernel
theorem dX9_hitsTarget_1 : decode cX9_hitsTarget 1 = .ok (.invokevirtual 116, 3) := by decide +kernel
theorem dX9_hitsTarget_4 : decode cX9_hitsTarget 4 = .ok (.ifCond .ne 5, 3) := by decide +kernel
theorem dX9_hitsTarget_7 : decode cX9_hitsTarget 7 = .ok (.iconst 0, 1) := by decide +kernel
theorem dX9_hitsTarget_8 : decode cX9_hitsTarget 8 = .ok (.ireturn, 1) := by decide +kernel
theorem dX9_hitsTarget_9 : decode cX9_hitsTarget 9 = .ok (.aload_n 0, 1) := by decide +kernel
theorem dX9_hitsTarget_10 : decode cX9_hitsTarget 10 = .ok (.getfield 7, 3) := by decide +kernel
theorem dX9_hitsTarget_13 : decode cX9_hitsTarget 13 = .ok (.bipush 24, 2) := by decide +kernel
theorem dX9_hitsTarget_15 : decode cX9_hitsTarget 15 = .ok (.iload_n 1, 1) := by decide +kernel
theorem dX9_hitsTarget_16 : decode cX9_hitsTarget 16 = .ok (.iadd, 1) := by decide +kernel
theorem dX9_hitsTarget_17 : decode cX9_hitsTarget 17 = .ok (.iaload, 1) := by decide +kernel
theorem dX9_hitsTarget_18 : decode cX9_hitsTarget 18 = .ok (.iconst 1, 1) := by decide +kernel
theorem dX9_hitsTarget_19 : decode cX9_hitsTarget 19 = .ok (.if_icmp .ne 11, 3) := by decide +kernel
theorem dX9_hitsTarget_22 : decode cX9_hitsTarget 22 = .ok (.aload_n 0, 1) := by decide +kernel
theorem dX9_hitsTarget_23 : decode cX9_hitsTarget 23 = .ok (.iconst 2, 1) := by decide +kernel
theorem dX9_hitsTarget_24 : decode cX9_hitsTarget 24 = .ok (.bipush 20, 2) := by decide +kernel
theorem dX9_hitsTarget_26 : decode cX9_hitsTarget 26 = .ok (.invokevirtual 119, 3) := by decide +kernel
theorem dX9_hitsTarget_29 : decode cX9_hitsTarget 29 = .ok (.ireturn, 1) := by decide +kernel
theorem dX9_hitsTarget_30 : decode cX9_hitsTarget 30 = .ok (.aload_n 0, 1) := by decide +kernel
theorem dX9_hitsTarget_31 : decode cX9_hitsTarget 31 = .ok (.iconst 2, 1) := by decide +kernel
theorem dX9_hitsTarget_32 : decode cX9_hitsTarget 32 = .ok (.sipush 200, 3) := by decide +kernel
theorem dX9_hitsTarget_35 : decode cX9_hitsTarget 35 = .ok (.invokevirtual 119, 3) := by decide +kernel
theorem dX9_hitsTarget_38 : decode cX9_hitsTarget 38 = .ok (.istore_n 2, 1) := by decide +kernel
theorem dX9_hitsTarget_39 : decode cX9_hitsTarget 39 = .ok (.aload_n 0, 1) := by decide +kernel
theorem dX9_hitsTarget_40 : decode cX9_hitsTarget 40 = .ok (.getfield 7, 3) := by decide +kernel
theorem dX9_hitsTarget_43 : decode cX9_hitsTarget 43 = .ok (.bipush 7, 2) := by decide +kernel
theorem dX9_hitsTarget_45 : decode cX9_hitsTarget 45 = .ok (.dup2, 1) := by decide +kernel
theorem dX9_hitsTarget_46 : decode cX9_hitsTarget 46 = .ok (.iaload, 1) := by decide +kernel
theorem dX9_hitsTarget_47 : decode cX9_hitsTarget 47 = .ok (.iconst 1, 1) := by decide +kernel
theorem dX9_hitsTarget_48 : decode cX9_hitsTarget 48 = .ok (.iadd, 1) := by decide +kernel
theorem dX9_hitsTarget_49 : decode cX9_hitsTarget 49 = .ok (.iastore, 1) := by decide +kernel
theorem dX9_hitsTarget_50 : decode cX9_hitsTarget 50 = .ok (.aload_n 0, 1) := by decide +kernel
theorem dX9_hitsTarget_51 : decode cX9_hitsTarget 51 = .ok (.getfield 7, 3) := by decide +kernel
theorem dX9_hitsTarget_54 : decode cX9_hitsTarget 54 = .ok (.bipush 24, 2) := by decide +kernel
theorem dX9_hitsTarget_56 : decode cX9_hitsTarget 56 = .ok (.iload_n 1, 1) := by decide +kernel
theorem dX9_hitsTarget_57 : decode cX9_hitsTarget 57 = .ok (.iadd, 1) := by decide +kernel
theorem dX9_hitsTarget_58 : decode cX9_hitsTarget 58 = .ok (.iconst 1, 1) := by decide +kernel
theorem dX9_hitsTarget_59 : decode cX9_hitsTarget 59 = .ok (.iastore, 1) := by decide +kernel
theorem dX9_hitsTarget_60 : decode cX9_hitsTarget 60 = .ok (.aload_n 0, 1) := by decide +kernel
theorem dX9_hitsTarget_61 : decode cX9_hitsTarget 61 = .ok (.bipush 24, 2) := by decide +kernel
theorem dX9_hitsTarget_63 : decode cX9_hitsTarget 63 = .ok (.iconst 5, 1) := by decide +kernel
theorem dX9_hitsTarget_64 : decode cX9_hitsTarget 64 = .ok (.invokevirtual 123, 3) := by decide +kernel
theorem dX9_hitsTarget_67 : decode cX9_hitsTarget 67 = .ok (.ifCond .ne 5, 3) := by decide +kernel
theorem dX9_hitsTarget_70 : decode cX9_hitsTarget 70 = .ok (.iload_n 2, 1) := by decide +kernel
theorem dX9_hitsTarget_71 : decode cX9_hitsTarget 71 = .ok (.ireturn, 1) := by decide +kernel
theorem dX9_hitsTarget_72 : decode cX9_hitsTarget 72 = .ok (.aload_n 0, 1) := by decide +kernel
theorem dX9_hitsTarget_73 : decode cX9_hitsTarget 73 = .ok (.getfield 7, 3) := by decide +kernel
theorem dX9_hitsTarget_76 : decode cX9_hitsTarget 76 = .ok (.bipush 7, 2) := by decide +kernel
theorem dX9_hitsTarget_78 : decode cX9_hitsTarget 78 = .ok (.dup2, 1) := by decide +kernel
theorem dX9_hitsTarget_79 : decode cX9_hitsTarget 79 = .ok (.iaload, 1) := by decide +kernel
theorem dX9_hitsTarget_80 : decode cX9_hitsTarget 80 = .ok (.iconst 3, 1) := by decide +kernel
theorem dX9_hitsTarget_81 : decode cX9_hitsTarget 81 = .ok (.iadd, 1) := by decide +kernel
theorem dX9_hitsTarget_82 : decode cX9_hitsTarget 82 = .ok (.iastore, 1) := by decide +kernel
theorem dX9_hitsTarget_83 : decode cX9_hitsTarget 83 = .ok (.aload_n 0, 1) := by decide +kernel
theorem dX9_hitsTarget_84 : decode cX9_hitsTarget 84 = .ok (.getfield 7, 3) := by decide +kernel
theorem dX9_hitsTarget_87 : decode cX9_hitsTarget 87 = .ok (.bipush 6, 2) := by decide +kernel
theorem dX9_hitsTarget_89 : decode cX9_hitsTarget 89 = .ok (.dup2, 1) := by decide +kernel
theorem dX9_hitsTarget_90 : decode cX9_hitsTarget 90 = .ok (.iaload, 1) := by decide +kernel
theorem dX9_hitsTarget_91 : decode cX9_hitsTarget 91 = .ok (.iconst 1, 1) := by decide +kernel
theorem dX9_hitsTarget_92 : decode cX9_hitsTarget 92 = .ok (.iadd, 1) := by decide +kernel
theorem dX9_hitsTarget_93 : decode cX9_hitsTarget 93 = .ok (.iastore, 1) := by decide +kernel
theorem dX9_hitsTarget_94 : decode cX9_hitsTarget 94 = .ok (.aload_n 0, 1) := by decide +kernel
theorem dX9_hitsTarget_95 : decode cX9_hitsTarget 95 = .ok (.getfield 7, 3) := by decide +kernel
theorem dX9_hitsTarget_98 : decode cX9_hitsTarget 98 = .ok (.bipush 6, 2) := by decide +kernel
theorem dX9_hitsTarget_100 : decode cX9_hitsTarget 100 = .ok (.iaload, 1) := by decide +kernel
theorem dX9_hitsTarget_101 : decode cX9_hitsTarget 101 = .ok (.iconst 2, 1) := by decide +kernel
theorem dX9_hitsTarget_102 : decode cX9_hitsTarget 102 = .ok (.if_icmp .ne 13, 3) := by decide +kernel
theorem dX9_hitsTarget_105 : decode cX9_hitsTarget 105 = .ok (.aload_n 0, 1) := by decide +kernel
theorem dX9_hitsTarget_106 : decode cX9_hitsTarget 106 = .ok (.aload_n 0, 1) := by decide +kernel
theorem dX9_hitsTarget_107 : decode cX9_hitsTarget 107 = .ok (.getfield 7, 3) := by decide +kernel
theorem dX9_hitsTarget_110 : decode cX9_hitsTarget 110 = .ok (.iconst 3, 1) := by decide +kernel
theorem dX9_hitsTarget_111 : decode cX9_hitsTarget 111 = .ok (.iaload, 1) := by decide +kernel
theorem dX9_hitsTarget_112 : decode cX9_hitsTarget 112 = .ok (.invokevirtual 109, 3) := by decide +kernel
theorem dX9_hitsTarget_115 : decode cX9_hitsTarget 115 = .ok (.iload_n 2, 1) := by decide +kernel
theorem dX9_hitsTarget_116 : decode cX9_hitsTarget 116 = .ok (.ireturn, 1) := by decide +kernel
theorem dX9_cannotHit_0 : decode cX9_cannotHit 0 = .ok (.iload_n 1, 1) := by decide +kernel
theorem dX9_cannotHit_1 : decode cX9_cannotHit 1 = .ok (.iconst 0, 1) := by decide +kernel
theorem dX9_cannotHit_2 : decode cX9_cannotHit 2 = .ok (.iload_n 2, 1) := by decide +kernel
theorem dX9_cannotHit_3 : decode cX9_cannotHit 3 = .ok (.iconst 1, 1) := by decide +kernel
theorem dX9_cannotHit_4 : decode cX9_cannotHit 4 = .ok (.isub, 1) := by decide +kernel
theorem dX9_cannotHit_5 : decode cX9_cannotHit 5 = .ok (.invokestatic 127, 3) := by decide +kernel
theorem dX9_cannotHit_8 : decode cX9_cannotHit 8 = .ok (.ifCond .ne 7, 3) := by decide +kernel
theorem dX9_cannotHit_11 : decode cX9_cannotHit 11 = .ok (.iconst 1, 1) := by decide +kernel
theorem dX9_cannotHit_12 : decode cX9_cannotHit 12 = .ok (.goto 15, 3) := by decide +kernel
theorem dX9_cannotHit_15 : decode cX9_cannotHit 15 = .ok (.aload_n 0, 1) := by decide +kernel
theorem dX9_cannotHit_16 : decode cX9_cannotHit 16 = .ok (.invokevirtual 76, 3) := by decide +kernel
theorem dX9_cannotHit_19 : decode cX9_cannotHit 19 = .ok (.ifCond .eq 7, 3) := by decide +kernel
theorem dX9_cannotHit_22 : decode cX9_cannotHit 22 = .ok (.iconst 0, 1) := by decide +kernel
theorem dX9_cannotHit_23 : decode cX9_cannotHit 23 = .ok (.goto 4, 3) := by decide +kernel
theorem dX9_cannotHit_26 : decode cX9_cannotHit 26 = .ok (.iconst 2, 1) := by decide +kernel
theorem dX9_cannotHit_27 : decode cX9_cannotHit 27 = .ok (.ireturn, 1) := by decide +kernel
theorem dX9_hitLane_0 : decode cX9_hitLane 0 = .ok (.aload_n 0, 1) := by decide +kernel
theorem dX9_hitLane_1 : decode cX9_hitLane 1 = .ok (.invokevirtual 80, 3) := by decide +kernel
theorem dX9_hitLane_4 : decode cX9_hitLane 4 = .ok (.aload_n 0, 1) := by decide +kernel
theorem dX9_hitLane_5 : decode cX9_hitLane 5 = .ok (.iload_n 1, 1) := by decide +kernel
theorem dX9_hitLane_6 : decode cX9_hitLane 6 = .ok (.iconst 4, 1) := by decide +kernel
theorem dX9_hitLane_7 : decode cX9_hitLane 7 = .ok (.invokevirtual 131, 3) := by decide +kernel
theorem dX9_hitLane_10 : decode cX9_hitLane 10 = .ok (.istore_n 2, 1) := by decide +kernel
theorem dX9_hitLane_11 : decode cX9_hitLane 11 = .ok (.iload_n 2, 1) := by decide +kernel
theorem dX9_hitLane_12 : decode cX9_hitLane 12 = .ok (.ifCond .le 11, 3) := by decide +kernel
theorem dX9_hitLane_15 : decode cX9_hitLane 15 = .ok (.aload_n 0, 1) := by decide +kernel
theorem dX9_hitLane_16 : decode cX9_hitLane 16 = .ok (.iload_n 2, 1) := by decide +kernel
theorem dX9_hitLane_17 : decode cX9_hitLane 17 = .ok (.invokevirtual 87, 3) := by decide +kernel
theorem dX9_hitLane_20 : decode cX9_hitLane 20 = .ok (.goto 12, 3) := by decide +kernel
theorem dX9_hitLane_23 : decode cX9_hitLane 23 = .ok (.aload_n 0, 1) := by decide +kernel
theorem dX9_hitLane_24 : decode cX9_hitLane 24 = .ok (.aload_n 0, 1) := by decide +kernel
theorem dX9_hitLane_25 : decode cX9_hitLane 25 = .ok (.iload_n 1, 1) := by decide +kernel
theorem dX9_hitLane_26 : decode cX9_hitLane 26 = .ok (.invokevirtual 134, 3) := by decide +kernel
theorem dX9_hitLane_29 : decode cX9_hitLane 29 = .ok (.invokevirtual 94, 3) := by decide +kernel
theorem dX9_hitLane_32 : decode cX9_hitLane 32 = .ok (.ireturn, 1) := by decide +kernel
theorem dX9_hitBumper_0 : decode cX9_hitBumper 0 = .ok (.aload_n 0, 1) := by decide +kernel
theorem dX9_hitBumper_1 : decode cX9_hitBumper 1 = .ok (.invokevirtual 80, 3) := by decide +kernel
theorem dX9_hitBumper_4 : decode cX9_hitBumper 4 = .ok (.aload_n 0, 1) := by decide +kernel
theorem dX9_hitBumper_5 : decode cX9_hitBumper 5 = .ok (.iload_n 1, 1) := by decide +kernel
theorem dX9_hitBumper_6 : decode cX9_hitBumper 6 = .ok (.iconst 3, 1) := by decide +kernel
theorem dX9_hitBumper_7 : decode cX9_hitBumper 7 = .ok (.invokevirtual 131, 3) := by decide +kernel
theorem dX9_hitBumper_10 : decode cX9_hitBumper 10 = .ok (.istore_n 2, 1) := by decide +kernel
theorem dX9_hitBumper_11 : decode cX9_hitBumper 11 = .ok (.iload_n 2, 1) := by decide +kernel
theorem dX9_hitBumper_12 : decode cX9_hitBumper 12 = .ok (.ifCond .le 11, 3) := by decide +kernel
theorem dX9_hitBumper_15 : decode cX9_hitBumper 15 = .ok (.aload_n 0, 1) := by decide +kernel
theorem dX9_hitBumper_16 : decode cX9_hitBumper 16 = .ok (.iload_n 2, 1) := by decide +kernel
theorem dX9_hitBumper_17 : decode cX9_hitBumper 17 = .ok (.invokevirtual 87, 3) := by decide +kernel
theorem dX9_hitBumper_20 : decode cX9_hitBumper 20 = .ok (.goto 12, 3) := by decide +kernel
theorem dX9_hitBumper_23 : decode cX9_hitBumper 23 = .ok (.aload_n 0, 1) := by decide +kernel
theorem dX9_hitBumper_24 : decode cX9_hitBumper 24 = .ok (.aload_n 0, 1) := by decide +kernel
theorem dX9_hitBumper_25 : decode cX9_hitBumper 25 = .ok (.iload_n 1, 1) := by decide +kernel
theorem dX9_hitBumper_26 : decode cX9_hitBumper 26 = .ok (.invokevirtual 137, 3) := by decide +kernel
theorem dX9_hitBumper_29 : decode cX9_hitBumper 29 = .ok (.invokevirtual 94, 3) := by decide +kernel
theorem dX9_hitBumper_32 : decode cX9_hitBumper 32 = .ok (.ireturn, 1) := by decide +kernel
theorem dX9_hitTarget_0 : decode cX9_hitTarget 0 = .ok (.aload_n 0, 1) := by decide +kernel
theorem dX9_hitTarget_1 : decode cX9_hitTarget 1 = .ok (.invokevirtual 80, 3) := by decide +kernel
theorem dX9_hitTarget_4 : decode cX9_hitTarget 4 = .ok (.aload_n 0, 1) := by decide +kernel
theorem dX9_hitTarget_5 : decode cX9_hitTarget 5 = .ok (.iload_n 1, 1) := by decide +kernel
theorem dX9_hitTarget_6 : decode cX9_hitTarget 6 = .ok (.iconst 5, 1) := by decide +kernel
theorem dX9_hitTarget_7 : decode cX9_hitTarget 7 = .ok (.invokevirtual 131, 3) := by decide +kernel
theorem dX9_hitTarget_10 : decode cX9_hitTarget 10 = .ok (.istore_n 2, 1) := by decide +kernel
theorem dX9_hitTarget_11 : decode cX9_hitTarget 11 = .ok (.iload_n 2, 1) := by decide +kernel
theorem dX9_hitTarget_12 : decode cX9_hitTarget 12 = .ok (.ifCond .le 11, 3) := by decide +kernel
theorem dX9_hitTarget_15 : decode cX9_hitTarget 15 = .ok (.aload_n 0, 1) := by decide +kernel
theorem dX9_hitTarget_16 : decode cX9_hitTarget 16 = .ok (.iload_n 2, 1) := by decide +kernel
theorem dX9_hitTarget_17 : decode cX9_hitTarget 17 = .ok (.invokevirtual 87, 3) := by decide +kernel
theorem dX9_hitTarget_20 : decode cX9_hitTarget 20 = .ok (.goto 12, 3) := by decide +kernel
theorem dX9_hitTarget_23 : decode cX9_hitTarget 23 = .ok (.aload_n 0, 1) := by decide +kernel
theorem dX9_hitTarget_24 : decode cX9_hitTarget 24 = .ok (.aload_n 0, 1) := by decide +kernel
theorem dX9_hitTarget_25 : decode cX9_hitTarget 25 = .ok (.iload_n 1, 1) := by decide +kernel
theorem dX9_hitTarget_26 : decode cX9_hitTarget 26 = .ok (.invokevirtual 140, 3) := by decide +kernel
theorem dX9_hitTarget_29 : decode cX9_hitTarget 29 = .ok (.invokevirtual 94, 3) := by decide +kernel
theorem dX9_hitTarget_32 : decode cX9_hitTarget 32 = .ok (.ireturn, 1) := by decide +kernel
theorem dX9_cannotNudge_0 : decode cX9_cannotNudge 0 = .ok (.iload_n 1, 1) := by decide +kernel
theorem dX9_cannotNudge_1 : decode cX9_cannotNudge 1 = .ok (.iconst 1, 1) := by decide +kernel
theorem dX9_cannotNudge_2 : decode cX9_cannotNudge 2 = .ok (.iconst 3, 1) := by decide +kernel
theorem dX9_cannotNudge_3 : decode cX9_cannotNudge 3 = .ok (.invokestatic 127, 3) := by decide +kernel
theorem dX9_cannotNudge_6 : decode cX9_cannotNudge 6 = .ok (.ifCond .ne 7, 3) := by decide +kernel
theorem dX9_cannotNudge_9 : decode cX9_cannotNudge 9 = .ok (.iconst 1, 1) := by decide +kernel
theorem dX9_cannotNudge_10 : decode cX9_cannotNudge 10 = .ok (.goto 15, 3) := by decide +kernel
theorem dX9_cannotNudge_13 : decode cX9_cannotNudge 13 = .ok (.aload_n 0, 1) := by decide +kernel
theorem dX9_cannotNudge_14 : decode cX9_cannotNudge 14 = .ok (.invokevirtual 76, 3) := by decide +kernel
theorem dX9_cannotNudge_17 : decode cX9_cannotNudge 17 = .ok (.ifCond .eq 7, 3) := by decide +kernel
theorem dX9_cannotNudge_20 : decode cX9_cannotNudge 20 = .ok (.iconst 0, 1) := by decide +kernel
theorem dX9_cannotNudge_21 : decode cX9_cannotNudge 21 = .ok (.goto 4, 3) := by decide +kernel
theorem dX9_cannotNudge_24 : decode cX9_cannotNudge 24 = .ok (.iconst 2, 1) := by decide +kernel
theorem dX9_cannotNudge_25 : decode cX9_cannotNudge 25 = .ok (.ireturn, 1) := by decide +kernel
theorem dX9_nudges_0 : decode cX9_nudges 0 = .ok (.aload_n 0, 1) := by decide +kernel
theorem dX9_nudges_1 : decode cX9_nudges 1 = .ok (.invokevirtual 113, 3) := by decide +kernel
theorem dX9_nudges_4 : decode cX9_nudges 4 = .ok (.ifCond .eq 11, 3) := by decide +kernel
theorem dX9_nudges_7 : decode cX9_nudges 7 = .ok (.aload_n 0, 1) := by decide +kernel
theorem dX9_nudges_8 : decode cX9_nudges 8 = .ok (.getfield 7, 3) := by decide +kernel
theorem dX9_nudges_11 : decode cX9_nudges 11 = .ok (.bipush 9, 2) := by decide +kernel
theorem dX9_nudges_13 : decode cX9_nudges 13 = .ok (.iaload, 1) := by decide +kernel
theorem dX9_nudges_14 : decode cX9_nudges 14 = .ok (.ireturn, 1) := by decide +kernel
theorem dX9_nudges_15 : decode cX9_nudges 15 = .ok (.aload_n 0, 1) := by decide +kernel
theorem dX9_nudges_16 : decode cX9_nudges 16 = .ok (.getfield 7, 3) := by decide +kernel
theorem dX9_nudges_19 : decode cX9_nudges 19 = .ok (.bipush 8, 2) := by decide +kernel
theorem dX9_nudges_21 : decode cX9_nudges 21 = .ok (.dup2, 1) := by decide +kernel
theorem dX9_nudges_22 : decode cX9_nudges 22 = .ok (.iaload, 1) := by decide +kernel
theorem dX9_nudges_23 : decode cX9_nudges 23 = .ok (.iload_n 1, 1) := by decide +kernel
theorem dX9_nudges_24 : decode cX9_nudges 24 = .ok (.iadd, 1) := by decide +kernel
theorem dX9_nudges_25 : decode cX9_nudges 25 = .ok (.iastore, 1) := by decide +kernel
theorem dX9_nudges_26 : decode cX9_nudges 26 = .ok (.aload_n 0, 1) := by decide +kernel
theorem dX9_nudges_27 : decode cX9_nudges 27 = .ok (.getfield 7, 3) := by decide +kernel
theorem dX9_nudges_30 : decode cX9_nudges 30 = .ok (.bipush 8, 2) := by decide +kernel
theorem dX9_nudges_32 : decode cX9_nudges 32 = .ok (.iaload, 1) := by decide +kernel
theorem dX9_nudges_33 : decode cX9_nudges 33 = .ok (.iconst 5, 1) := by decide +kernel
theorem dX9_nudges_34 : decode cX9_nudges 34 = .ok (.if_icmp .ge 11, 3) := by decide +kernel
theorem dX9_nudges_37 : decode cX9_nudges 37 = .ok (.aload_n 0, 1) := by decide +kernel
theorem dX9_nudges_38 : decode cX9_nudges 38 = .ok (.getfield 7, 3) := by decide +kernel
theorem dX9_nudges_41 : decode cX9_nudges 41 = .ok (.bipush 9, 2) := by decide +kernel
theorem dX9_nudges_43 : decode cX9_nudges 43 = .ok (.iaload, 1) := by decide +kernel
theorem dX9_nudges_44 : decode cX9_nudges 44 = .ok (.ireturn, 1) := by decide +kernel
theorem dX9_nudges_45 : decode cX9_nudges 45 = .ok (.aload_n 0, 1) := by decide +kernel
theorem dX9_nudges_46 : decode cX9_nudges 46 = .ok (.getfield 7, 3) := by decide +kernel
theorem dX9_nudges_49 : decode cX9_nudges 49 = .ok (.bipush 8, 2) := by decide +kernel
theorem dX9_nudges_51 : decode cX9_nudges 51 = .ok (.iconst 0, 1) := by decide +kernel
theorem dX9_nudges_52 : decode cX9_nudges 52 = .ok (.iastore, 1) := by decide +kernel
theorem dX9_nudges_53 : decode cX9_nudges 53 = .ok (.aload_n 0, 1) := by decide +kernel
theorem dX9_nudges_54 : decode cX9_nudges 54 = .ok (.getfield 7, 3) := by decide +kernel
theorem dX9_nudges_57 : decode cX9_nudges 57 = .ok (.bipush 9, 2) := by decide +kernel
theorem dX9_nudges_59 : decode cX9_nudges 59 = .ok (.dup2, 1) := by decide +kernel
theorem dX9_nudges_60 : decode cX9_nudges 60 = .ok (.iaload, 1) := by decide +kernel
theorem dX9_nudges_61 : decode cX9_nudges 61 = .ok (.iconst 1, 1) := by decide +kernel
theorem dX9_nudges_62 : decode cX9_nudges 62 = .ok (.iadd, 1) := by decide +kernel
theorem dX9_nudges_63 : decode cX9_nudges 63 = .ok (.iastore, 1) := by decide +kernel
theorem dX9_nudges_64 : decode cX9_nudges 64 = .ok (.aload_n 0, 1) := by decide +kernel
theorem dX9_nudges_65 : decode cX9_nudges 65 = .ok (.getfield 7, 3) := by decide +kernel
theorem dX9_nudges_68 : decode cX9_nudges 68 = .ok (.bipush 9, 2) := by decide +kernel
theorem dX9_nudges_70 : decode cX9_nudges 70 = .ok (.iaload, 1) := by decide +kernel
theorem dX9_nudges_71 : decode cX9_nudges 71 = .ok (.iconst 3, 1) := by decide +kernel
theorem dX9_nudges_72 : decode cX9_nudges 72 = .ok (.if_icmp .ne 22, 3) := by decide +kernel
theorem dX9_nudges_75 : decode cX9_nudges 75 = .ok (.aload_n 0, 1) := by decide +kernel
theorem dX9_nudges_76 : decode cX9_nudges 76 = .ok (.getfield 7, 3) := by decide +kernel
theorem dX9_nudges_79 : decode cX9_nudges 79 = .ok (.bipush 11, 2) := by decide +kernel
theorem dX9_nudges_81 : decode cX9_nudges 81 = .ok (.iconst 1, 1) := by decide +kernel
theorem dX9_nudges_82 : decode cX9_nudges 82 = .ok (.iastore, 1) := by decide +kernel
theorem dX9_nudges_83 : decode cX9_nudges 83 = .ok (.aload_n 0, 1) := by decide +kernel
theorem dX9_nudges_84 : decode cX9_nudges 84 = .ok (.getfield 7, 3) := by decide +kernel
theorem dX9_nudges_87 : decode cX9_nudges 87 = .ok (.bipush 15, 2) := by decide +kernel
theorem dX9_nudges_89 : decode cX9_nudges 89 = .ok (.dup2, 1) := by decide +kernel
theorem dX9_nudges_90 : decode cX9_nudges 90 = .ok (.iaload, 1) := by decide +kernel
theorem dX9_nudges_91 : decode cX9_nudges 91 = .ok (.iconst 1, 1) := by decide +kernel
theorem dX9_nudges_92 : decode cX9_nudges 92 = .ok (.iadd, 1) := by decide +kernel
theorem dX9_nudges_93 : decode cX9_nudges 93 = .ok (.iastore, 1) := by decide +kernel
theorem dX9_nudges_94 : decode cX9_nudges 94 = .ok (.aload_n 0, 1) := by decide +kernel
theorem dX9_nudges_95 : decode cX9_nudges 95 = .ok (.getfield 7, 3) := by decide +kernel
theorem dX9_nudges_98 : decode cX9_nudges 98 = .ok (.bipush 9, 2) := by decide +kernel
theorem dX9_nudges_100 : decode cX9_nudges 100 = .ok (.iaload, 1) := by decide +kernel
theorem dX9_nudges_101 : decode cX9_nudges 101 = .ok (.ireturn, 1) := by decide +kernel
theorem dX9_nudge_0 : decode cX9_nudge 0 = .ok (.aload_n 0, 1) := by decide +kernel
theorem dX9_nudge_1 : decode cX9_nudge 1 = .ok (.invokevirtual 80, 3) := by decide +kernel
theorem dX9_nudge_4 : decode cX9_nudge 4 = .ok (.aload_n 0, 1) := by decide +kernel
theorem dX9_nudge_5 : decode cX9_nudge 5 = .ok (.iload_n 1, 1) := by decide +kernel
theorem dX9_nudge_6 : decode cX9_nudge 6 = .ok (.invokevirtual 143, 3) := by decide +kernel
theorem dX9_nudge_9 : decode cX9_nudge 9 = .ok (.istore_n 2, 1) := by decide +kernel
theorem dX9_nudge_10 : decode cX9_nudge 10 = .ok (.iload_n 2, 1) := by decide +kernel
theorem dX9_nudge_11 : decode cX9_nudge 11 = .ok (.ifCond .le 11, 3) := by decide +kernel
theorem dX9_nudge_14 : decode cX9_nudge 14 = .ok (.aload_n 0, 1) := by decide +kernel
theorem dX9_nudge_15 : decode cX9_nudge 15 = .ok (.iload_n 2, 1) := by decide +kernel
theorem dX9_nudge_16 : decode cX9_nudge 16 = .ok (.invokevirtual 87, 3) := by decide +kernel
theorem dX9_nudge_19 : decode cX9_nudge 19 = .ok (.goto 12, 3) := by decide +kernel
theorem dX9_nudge_22 : decode cX9_nudge 22 = .ok (.aload_n 0, 1) := by decide +kernel
theorem dX9_nudge_23 : decode cX9_nudge 23 = .ok (.aload_n 0, 1) := by decide +kernel
theorem dX9_nudge_24 : decode cX9_nudge 24 = .ok (.iload_n 1, 1) := by decide +kernel
theorem dX9_nudge_25 : decode cX9_nudge 25 = .ok (.invokevirtual 146, 3) := by decide +kernel
theorem dX9_nudge_28 : decode cX9_nudge 28 = .ok (.invokevirtual 94, 3) := by decide +kernel
theorem dX9_nudge_31 : decode cX9_nudge 31 = .ok (.ireturn, 1) := by decide +kernel
theorem dX9_isSaver_0 : decode cX9_isSaver 0 = .ok (.aload_n 0, 1) := by decide +kernel
theorem dX9_isSaver_1 : decode cX9_isSaver 1 = .ok (.invokevirtual 113, 3) := by decide +kernel
theorem dX9_isSaver_4 : decode cX9_isSaver 4 = .ok (.ifCond .ne 28, 3) := by decide +kernel
theorem dX9_isSaver_7 : decode cX9_isSaver 7 = .ok (.aload_n 0, 1) := by decide +kernel
theorem dX9_isSaver_8 : decode cX9_isSaver 8 = .ok (.getfield 7, 3) := by decide +kernel
theorem dX9_isSaver_11 : decode cX9_isSaver 11 = .ok (.bipush 10, 2) := by decide +kernel
theorem dX9_isSaver_13 : decode cX9_isSaver 13 = .ok (.iaload, 1) := by decide +kernel
theorem dX9_isSaver_14 : decode cX9_isSaver 14 = .ok (.iconst 3, 1) := by decide +kernel
theorem dX9_isSaver_15 : decode cX9_isSaver 15 = .ok (.if_icmp .gt 17, 3) := by decide +kernel
theorem dX9_isSaver_18 : decode cX9_isSaver 18 = .ok (.aload_n 0, 1) := by decide +kernel
theorem dX9_isSaver_19 : decode cX9_isSaver 19 = .ok (.getfield 7, 3) := by decide +kernel
theorem dX9_isSaver_22 : decode cX9_isSaver 22 = .ok (.bipush 12, 2) := by decide +kernel
theorem dX9_isSaver_24 : decode cX9_isSaver 24 = .ok (.iaload, 1) := by decide +kernel
theorem dX9_isSaver_25 : decode cX9_isSaver 25 = .ok (.ifCond .ne 7, 3) := by decide +kernel
theorem dX9_isSaver_28 : decode cX9_isSaver 28 = .ok (.iconst 1, 1) := by decide +kernel
theorem dX9_isSaver_29 : decode cX9_isSaver 29 = .ok (.goto 4, 3) := by decide +kernel
theorem dX9_isSaver_32 : decode cX9_isSaver 32 = .ok (.iconst 0, 1) := by decide +kernel
theorem dX9_isSaver_33 : decode cX9_isSaver 33 = .ok (.ireturn, 1) := by decide +kernel
theorem dX9_putsRecord_0 : decode cX9_putsRecord 0 = .ok (.iconst 0, 1) := by decide +kernel
theorem dX9_putsRecord_1 : decode cX9_putsRecord 1 = .ok (.istore_n 3, 1) := by decide +kernel
theorem dX9_putsRecord_2 : decode cX9_putsRecord 2 = .ok (.iload_n 3, 1) := by decide +kernel
theorem dX9_putsRecord_3 : decode cX9_putsRecord 3 = .ok (.iconst 3, 1) := by decide +kernel
theorem dX9_putsRecord_4 : decode cX9_putsRecord 4 = .ok (.if_icmp .ge 35, 3) := by decide +kernel
theorem dX9_putsRecord_7 : decode cX9_putsRecord 7 = .ok (.aload_n 0, 1) := by decide +kernel
theorem dX9_putsRecord_8 : decode cX9_putsRecord 8 = .ok (.getfield 7, 3) := by decide +kernel
theorem dX9_putsRecord_11 : decode cX9_putsRecord 11 = .ok (.bipush 46, 2) := by decide +kernel
theorem dX9_putsRecord_13 : decode cX9_putsRecord 13 = .ok (.iconst 3, 1) := by decide +kernel
theorem dX9_putsRecord_14 : decode cX9_putsRecord 14 = .ok (.iload_n 2, 1) := by decide +kernel
theorem dX9_putsRecord_15 : decode cX9_putsRecord 15 = .ok (.imul, 1) := by decide +kernel
theorem dX9_putsRecord_16 : decode cX9_putsRecord 16 = .ok (.iadd, 1) := by decide +kernel
theorem dX9_putsRecord_17 : decode cX9_putsRecord 17 = .ok (.iload_n 3, 1) := by decide +kernel
theorem dX9_putsRecord_18 : decode cX9_putsRecord 18 = .ok (.iadd, 1) := by decide +kernel
theorem dX9_putsRecord_19 : decode cX9_putsRecord 19 = .ok (.aload_n 0, 1) := by decide +kernel
theorem dX9_putsRecord_20 : decode cX9_putsRecord 20 = .ok (.getfield 7, 3) := by decide +kernel
theorem dX9_putsRecord_23 : decode cX9_putsRecord 23 = .ok (.bipush 46, 2) := by decide +kernel
theorem dX9_putsRecord_25 : decode cX9_putsRecord 25 = .ok (.iconst 3, 1) := by decide +kernel
theorem dX9_putsRecord_26 : decode cX9_putsRecord 26 = .ok (.iload_n 1, 1) := by decide +kernel
theorem dX9_putsRecord_27 : decode cX9_putsRecord 27 = .ok (.imul, 1) := by decide +kernel
theorem dX9_putsRecord_28 : decode cX9_putsRecord 28 = .ok (.iadd, 1) := by decide +kernel
theorem dX9_putsRecord_29 : decode cX9_putsRecord 29 = .ok (.iload_n 3, 1) := by decide +kernel
theorem dX9_putsRecord_30 : decode cX9_putsRecord 30 = .ok (.iadd, 1) := by decide +kernel
theorem dX9_putsRecord_31 : decode cX9_putsRecord 31 = .ok (.iaload, 1) := by decide +kernel
theorem dX9_putsRecord_32 : decode cX9_putsRecord 32 = .ok (.iastore, 1) := by decide +kernel
theorem dX9_putsRecord_33 : decode cX9_putsRecord 33 = .ok (.iinc 3 1, 3) := by decide +kernel
theorem dX9_putsRecord_36 : decode cX9_putsRecord 36 = .ok (.goto (-34), 3) := by decide +kernel
theorem dX9_putsRecord_39 : decode cX9_putsRecord 39 = .ok (.return_, 1) := by decide +kernel
theorem dX9_enters_0 : decode cX9_enters 0 = .ok (.aload_n 0, 1) := by decide +kernel
theorem dX9_enters_1 : decode cX9_enters 1 = .ok (.getfield 7, 3) := by decide +kernel
theorem dX9_enters_4 : decode cX9_enters 4 = .ok (.bipush 30, 2) := by decide +kernel
theorem dX9_enters_6 : decode cX9_enters 6 = .ok (.iload_n 1, 1) := by decide +kernel
theorem dX9_enters_7 : decode cX9_enters 7 = .ok (.iadd, 1) := by decide +kernel
theorem dX9_enters_8 : decode cX9_enters 8 = .ok (.iaload, 1) := by decide +kernel
theorem dX9_enters_9 : decode cX9_enters 9 = .ok (.istore_n 2, 1) := by decide +kernel
theorem dX9_enters_10 : decode cX9_enters 10 = .ok (.aload_n 0, 1) := by decide +kernel
theorem dX9_enters_11 : decode cX9_enters 11 = .ok (.getfield 7, 3) := by decide +kernel
theorem dX9_enters_14 : decode cX9_enters 14 = .ok (.bipush 13, 2) := by decide +kernel
theorem dX9_enters_16 : decode cX9_enters 16 = .ok (.iaload, 1) := by decide +kernel
theorem dX9_enters_17 : decode cX9_enters 17 = .ok (.istore_n 3, 1) := by decide +kernel
theorem dX9_enters_18 : decode cX9_enters 18 = .ok (.iload_n 3, 1) := by decide +kernel
theorem dX9_enters_19 : decode cX9_enters 19 = .ok (.ifCond .le 26, 3) := by decide +kernel
theorem dX9_enters_22 : decode cX9_enters 22 = .ok (.aload_n 0, 1) := by decide +kernel
theorem dX9_enters_23 : decode cX9_enters 23 = .ok (.getfield 7, 3) := by decide +kernel
theorem dX9_enters_26 : decode cX9_enters 26 = .ok (.bipush 46, 2) := by decide +kernel
theorem dX9_enters_28 : decode cX9_enters 28 = .ok (.iconst 3, 1) := by decide +kernel
theorem dX9_enters_29 : decode cX9_enters 29 = .ok (.iload_n 3, 1) := by decide +kernel
theorem dX9_enters_30 : decode cX9_enters 30 = .ok (.imul, 1) := by decide +kernel
theorem dX9_enters_31 : decode cX9_enters 31 = .ok (.iadd, 1) := by decide +kernel
theorem dX9_enters_32 : decode cX9_enters 32 = .ok (.iconst 3, 1) := by decide +kernel
theorem dX9_enters_33 : decode cX9_enters 33 = .ok (.isub, 1) := by decide +kernel
theorem dX9_enters_34 : decode cX9_enters 34 = .ok (.iaload, 1) := by decide +kernel
theorem dX9_enters_35 : decode cX9_enters 35 = .ok (.iload_n 2, 1) := by decide +kernel
theorem dX9_enters_36 : decode cX9_enters 36 = .ok (.if_icmp .ge 9, 3) := by decide +kernel
theorem dX9_enters_39 : decode cX9_enters 39 = .ok (.iinc 3 (-1), 3) := by decide +kernel
theorem dX9_enters_42 : decode cX9_enters 42 = .ok (.goto (-24), 3) := by decide +kernel
theorem dX9_enters_45 : decode cX9_enters 45 = .ok (.iload_n 3, 1) := by decide +kernel
theorem dX9_enters_46 : decode cX9_enters 46 = .ok (.iconst 5, 1) := by decide +kernel
theorem dX9_enters_47 : decode cX9_enters 47 = .ok (.if_icmp .ne 4, 3) := by decide +kernel
theorem dX9_enters_50 : decode cX9_enters 50 = .ok (.return_, 1) := by decide +kernel
theorem dX9_enters_51 : decode cX9_enters 51 = .ok (.aload_n 0, 1) := by decide +kernel
theorem dX9_enters_52 : decode cX9_enters 52 = .ok (.getfield 7, 3) := by decide +kernel
theorem dX9_enters_55 : decode cX9_enters 55 = .ok (.bipush 13, 2) := by decide +kernel
theorem dX9_enters_57 : decode cX9_enters 57 = .ok (.iaload, 1) := by decide +kernel
theorem dX9_enters_58 : decode cX9_enters 58 = .ok (.iconst 5, 1) := by decide +kernel
theorem dX9_enters_59 : decode cX9_enters 59 = .ok (.if_icmp .ge 14, 3) := by decide +kernel
theorem dX9_enters_62 : decode cX9_enters 62 = .ok (.aload_n 0, 1) := by decide +kernel
theorem dX9_enters_63 : decode cX9_enters 63 = .ok (.getfield 7, 3) := by decide +kernel
theorem dX9_enters_66 : decode cX9_enters 66 = .ok (.bipush 13, 2) := by decide +kernel
theorem dX9_enters_68 : decode cX9_enters 68 = .ok (.dup2, 1) := by decide +kernel
theorem dX9_enters_69 : decode cX9_enters 69 = .ok (.iaload, 1) := by decide +kernel
theorem dX9_enters_70 : decode cX9_enters 70 = .ok (.iconst 1, 1) := by decide +kernel
theorem dX9_enters_71 : decode cX9_enters 71 = .ok (.iadd, 1) := by decide +kernel
theorem dX9_enters_72 : decode cX9_enters 72 = .ok (.iastore, 1) := by decide +kernel
theorem dX9_enters_73 : decode cX9_enters 73 = .ok (.aload_n 0, 1) := by decide +kernel
theorem dX9_enters_74 : decode cX9_enters 74 = .ok (.getfield 7, 3) := by decide +kernel
theorem dX9_enters_77 : decode cX9_enters 77 = .ok (.bipush 13, 2) := by decide +kernel
theorem dX9_enters_79 : decode cX9_enters 79 = .ok (.iaload, 1) := by decide +kernel
theorem dX9_enters_80 : decode cX9_enters 80 = .ok (.iconst 1, 1) := by decide +kernel
theorem dX9_enters_81 : decode cX9_enters 81 = .ok (.isub, 1) := by decide +kernel
theorem dX9_enters_82 : decode cX9_enters 82 = .ok (.istore 4, 2) := by decide +kernel
theorem dX9_enters_84 : decode cX9_enters 84 = .ok (.iload 4, 2) := by decide +kernel
theorem dX9_enters_86 : decode cX9_enters 86 = .ok (.iload_n 3, 1) := by decide +kernel
theorem dX9_enters_87 : decode cX9_enters 87 = .ok (.if_icmp .le 19, 3) := by decide +kernel
theorem dX9_enters_90 : decode cX9_enters 90 = .ok (.aload_n 0, 1) := by decide +kernel
theorem dX9_enters_91 : decode cX9_enters 91 = .ok (.iload 4, 2) := by decide +kernel
theorem dX9_enters_93 : decode cX9_enters 93 = .ok (.iconst 1, 1) := by decide +kernel
theorem dX9_enters_94 : decode cX9_enters 94 = .ok (.isub, 1) := by decide +kernel
theorem dX9_enters_95 : decode cX9_enters 95 = .ok (.iload 4, 2) := by decide +kernel
theorem dX9_enters_97 : decode cX9_enters 97 = .ok (.invokevirtual 149, 3) := by decide +kernel
theorem dX9_enters_100 : decode cX9_enters 100 = .ok (.iinc 4 (-1), 3) := by decide +kernel
theorem dX9_enters_103 : decode cX9_enters 103 = .ok (.goto (-19), 3) := by decide +kernel
theorem dX9_enters_106 : decode cX9_enters 106 = .ok (.aload_n 0, 1) := by decide +kernel
theorem dX9_enters_107 : decode cX9_enters 107 = .ok (.getfield 7, 3) := by decide +kernel
theorem dX9_enters_110 : decode cX9_enters 110 = .ok (.bipush 46, 2) := by decide +kernel
theorem dX9_enters_112 : decode cX9_enters 112 = .ok (.iconst 3, 1) := by decide +kernel
theorem dX9_enters_113 : decode cX9_enters 113 = .ok (.iload_n 3, 1) := by decide +kernel
theorem dX9_enters_114 : decode cX9_enters 114 = .ok (.imul, 1) := by decide +kernel
theorem dX9_enters_115 : decode cX9_enters 115 = .ok (.iadd, 1) := by decide +kernel
theorem dX9_enters_116 : decode cX9_enters 116 = .ok (.iload_n 2, 1) := by decide +kernel
theorem dX9_enters_117 : decode cX9_enters 117 = .ok (.iastore, 1) := by decide +kernel
theorem dX9_enters_118 : decode cX9_enters 118 = .ok (.aload_n 0, 1) := by decide +kernel
theorem dX9_enters_119 : decode cX9_enters 119 = .ok (.getfield 7, 3) := by decide +kernel
theorem dX9_enters_122 : decode cX9_enters 122 = .ok (.bipush 46, 2) := by decide +kernel
theorem dX9_enters_124 : decode cX9_enters 124 = .ok (.iconst 3, 1) := by decide +kernel
theorem dX9_enters_125 : decode cX9_enters 125 = .ok (.iload_n 3, 1) := by decide +kernel
theorem dX9_enters_126 : decode cX9_enters 126 = .ok (.imul, 1) := by decide +kernel
theorem dX9_enters_127 : decode cX9_enters 127 = .ok (.iadd, 1) := by decide +kernel
theorem dX9_enters_128 : decode cX9_enters 128 = .ok (.iconst 1, 1) := by decide +kernel
theorem dX9_enters_129 : decode cX9_enters 129 = .ok (.iadd, 1) := by decide +kernel
theorem dX9_enters_130 : decode cX9_enters 130 = .ok (.iload_n 1, 1) := by decide +kernel
theorem dX9_enters_131 : decode cX9_enters 131 = .ok (.iastore, 1) := by decide +kernel
theorem dX9_enters_132 : decode cX9_enters 132 = .ok (.aload_n 0, 1) := by decide +kernel
theorem dX9_enters_133 : decode cX9_enters 133 = .ok (.getfield 7, 3) := by decide +kernel
theorem dX9_enters_136 : decode cX9_enters 136 = .ok (.bipush 46, 2) := by decide +kernel
theorem dX9_enters_138 : decode cX9_enters 138 = .ok (.iconst 3, 1) := by decide +kernel
theorem dX9_enters_139 : decode cX9_enters 139 = .ok (.iload_n 3, 1) := by decide +kernel
theorem dX9_enters_140 : decode cX9_enters 140 = .ok (.imul, 1) := by decide +kernel
theorem dX9_enters_141 : decode cX9_enters 141 = .ok (.iadd, 1) := by decide +kernel
theorem dX9_enters_142 : decode cX9_enters 142 = .ok (.iconst 2, 1) := by decide +kernel
theorem dX9_enters_143 : decode cX9_enters 143 = .ok (.iadd, 1) := by decide +kernel
theorem dX9_enters_144 : decode cX9_enters 144 = .ok (.aload_n 0, 1) := by decide +kernel
theorem dX9_enters_145 : decode cX9_enters 145 = .ok (.getfield 7, 3) := by decide +kernel
theorem dX9_enters_148 : decode cX9_enters 148 = .ok (.iconst 1, 1) := by decide +kernel
theorem dX9_enters_149 : decode cX9_enters 149 = .ok (.iaload, 1) := by decide +kernel
theorem dX9_enters_150 : decode cX9_enters 150 = .ok (.iastore, 1) := by decide +kernel
theorem dX9_enters_151 : decode cX9_enters 151 = .ok (.return_, 1) := by decide +kernel
theorem dX9_follows_0 : decode cX9_follows 0 = .ok (.aload_n 0, 1) := by decide +kernel
theorem dX9_follows_1 : decode cX9_follows 1 = .ok (.getfield 7, 3) := by decide +kernel
theorem dX9_follows_4 : decode cX9_follows 4 = .ok (.iconst 3, 1) := by decide +kernel
theorem dX9_follows_5 : decode cX9_follows 5 = .ok (.iaload, 1) := by decide +kernel
theorem dX9_follows_6 : decode cX9_follows 6 = .ok (.istore_n 1, 1) := by decide +kernel
theorem dX9_follows_7 : decode cX9_follows 7 = .ok (.aload_n 0, 1) := by decide +kernel
theorem dX9_follows_8 : decode cX9_follows 8 = .ok (.getfield 7, 3) := by decide +kernel
theorem dX9_follows_11 : decode cX9_follows 11 = .ok (.bipush 34, 2) := by decide +kernel
theorem dX9_follows_13 : decode cX9_follows 13 = .ok (.iload_n 1, 1) := by decide +kernel
theorem dX9_follows_14 : decode cX9_follows 14 = .ok (.iadd, 1) := by decide +kernel
theorem dX9_follows_15 : decode cX9_follows 15 = .ok (.iaload, 1) := by decide +kernel
theorem dX9_follows_16 : decode cX9_follows 16 = .ok (.ifCond .le 21, 3) := by decide +kernel
theorem dX9_follows_19 : decode cX9_follows 19 = .ok (.aload_n 0, 1) := by decide +kernel
theorem dX9_follows_20 : decode cX9_follows 20 = .ok (.getfield 7, 3) := by decide +kernel
theorem dX9_follows_23 : decode cX9_follows 23 = .ok (.bipush 34, 2) := by decide +kernel
theorem dX9_follows_25 : decode cX9_follows 25 = .ok (.iload_n 1, 1) := by decide +kernel
theorem dX9_follows_26 : decode cX9_follows 26 = .ok (.iadd, 1) := by decide +kernel
theorem dX9_follows_27 : decode cX9_follows 27 = .ok (.dup2, 1) := by decide +kernel
theorem dX9_follows_28 : decode cX9_follows 28 = .ok (.iaload, 1) := by decide +kernel
theorem dX9_follows_29 : decode cX9_follows 29 = .ok (.iconst 1, 1) := by decide +kernel
theorem dX9_follows_30 : decode cX9_follows 30 = .ok (.isub, 1) := by decide +kernel
theorem dX9_follows_31 : decode cX9_follows 31 = .ok (.iastore, 1) := by decide +kernel
theorem dX9_follows_32 : decode cX9_follows 32 = .ok (.aload_n 0, 1) := by decide +kernel
theorem dX9_follows_33 : decode cX9_follows 33 = .ok (.invokevirtual 97, 3) := by decide +kernel
theorem dX9_follows_36 : decode cX9_follows 36 = .ok (.return_, 1) := by decide +kernel
theorem dX9_follows_37 : decode cX9_follows 37 = .ok (.iload_n 1, 1) := by decide +kernel
theorem dX9_follows_38 : decode cX9_follows 38 = .ok (.aload_n 0, 1) := by decide +kernel
theorem dX9_follows_39 : decode cX9_follows 39 = .ok (.getfield 7, 3) := by decide +kernel
theorem dX9_follows_42 : decode cX9_follows 42 = .ok (.iconst 2, 1) := by decide +kernel
theorem dX9_follows_43 : decode cX9_follows 43 = .ok (.iaload, 1) := by decide +kernel
theorem dX9_follows_44 : decode cX9_follows 44 = .ok (.iconst 1, 1) := by decide +kernel
theorem dX9_follows_45 : decode cX9_follows 45 = .ok (.isub, 1) := by decide +kernel
theorem dX9_follows_46 : decode cX9_follows 46 = .ok (.if_icmp .ne 7, 3) := by decide +kernel
theorem dX9_follows_49 : decode cX9_follows 49 = .ok (.iconst 1, 1) := by decide +kernel
theorem dX9_follows_50 : decode cX9_follows 50 = .ok (.goto 4, 3) := by decide +kernel
theorem dX9_follows_53 : decode cX9_follows 53 = .ok (.iconst 0, 1) := by decide +kernel
theorem dX9_follows_54 : decode cX9_follows 54 = .ok (.istore_n 2, 1) := by decide +kernel
theorem dX9_follows_55 : decode cX9_follows 55 = .ok (.iload_n 2, 1) := by decide +kernel
theorem dX9_follows_56 : decode cX9_follows 56 = .ok (.ifCond .eq 44, 3) := by decide +kernel
theorem dX9_follows_59 : decode cX9_follows 59 = .ok (.aload_n 0, 1) := by decide +kernel
theorem dX9_follows_60 : decode cX9_follows 60 = .ok (.getfield 7, 3) := by decide +kernel
theorem dX9_follows_63 : decode cX9_follows 63 = .ok (.iconst 4, 1) := by decide +kernel
theorem dX9_follows_64 : decode cX9_follows 64 = .ok (.iaload, 1) := by decide +kernel
theorem dX9_follows_65 : decode cX9_follows 65 = .ok (.iconst 3, 1) := by decide +kernel
theorem dX9_follows_66 : decode cX9_follows 66 = .ok (.if_icmp .ne 34, 3) := by decide +kernel
theorem dX9_follows_69 : decode cX9_follows 69 = .ok (.aload_n 0, 1) := by decide +kernel
theorem dX9_follows_70 : decode cX9_follows 70 = .ok (.getfield 7, 3) := by decide +kernel
theorem dX9_follows_73 : decode cX9_follows 73 = .ok (.iconst 0, 1) := by decide +kernel
theorem dX9_follows_74 : decode cX9_follows 74 = .ok (.iconst 0, 1) := by decide +kernel
theorem dX9_follows_75 : decode cX9_follows 75 = .ok (.iastore, 1) := by decide +kernel
theorem dX9_follows_76 : decode cX9_follows 76 = .ok (.iconst 0, 1) := by decide +kernel
theorem dX9_follows_77 : decode cX9_follows 77 = .ok (.istore_n 3, 1) := by decide +kernel
theorem dX9_follows_78 : decode cX9_follows 78 = .ok (.iload_n 3, 1) := by decide +kernel
theorem dX9_follows_79 : decode cX9_follows 79 = .ok (.aload_n 0, 1) := by decide +kernel
theorem dX9_follows_80 : decode cX9_follows 80 = .ok (.getfield 7, 3) := by decide +kernel
theorem dX9_follows_83 : decode cX9_follows 83 = .ok (.iconst 2, 1) := by decide +kernel
theorem dX9_follows_84 : decode cX9_follows 84 = .ok (.iaload, 1) := by decide +kernel
theorem dX9_follows_85 : decode cX9_follows 85 = .ok (.if_icmp .ge 14, 3) := by decide +kernel
theorem dX9_follows_88 : decode cX9_follows 88 = .ok (.aload_n 0, 1) := by decide +kernel
theorem dX9_follows_89 : decode cX9_follows 89 = .ok (.iload_n 3, 1) := by decide +kernel
theorem dX9_follows_90 : decode cX9_follows 90 = .ok (.invokevirtual 153, 3) := by decide +kernel
theorem dX9_follows_93 : decode cX9_follows 93 = .ok (.iinc 3 1, 3) := by decide +kernel
theorem dX9_follows_96 : decode cX9_follows 96 = .ok (.goto (-18), 3) := by decide +kernel
theorem dX9_follows_99 : decode cX9_follows 99 = .ok (.return_, 1) := by decide +kernel
theorem dX9_follows_100 : decode cX9_follows 100 = .ok (.aload_n 0, 1) := by decide +kernel
theorem dX9_follows_101 : decode cX9_follows 101 = .ok (.getfield 7, 3) := by decide +kernel
theorem dX9_follows_104 : decode cX9_follows 104 = .ok (.iconst 4, 1) := by decide +kernel
theorem dX9_follows_105 : decode cX9_follows 105 = .ok (.dup2, 1) := by decide +kernel
theorem dX9_follows_106 : decode cX9_follows 106 = .ok (.iaload, 1) := by decide +kernel
theorem dX9_follows_107 : decode cX9_follows 107 = .ok (.iload_n 2, 1) := by decide +kernel
theorem dX9_follows_108 : decode cX9_follows 108 = .ok (.ifCond .eq 7, 3) := by decide +kernel
theorem dX9_follows_111 : decode cX9_follows 111 = .ok (.iconst 1, 1) := by decide +kernel
theorem dX9_follows_112 : decode cX9_follows 112 = .ok (.goto 4, 3) := by decide +kernel
theorem dX9_follows_115 : decode cX9_follows 115 = .ok (.iconst 0, 1) := by decide +kernel
theorem dX9_follows_116 : decode cX9_follows 116 = .ok (.iadd, 1) := by decide +kernel
theorem dX9_follows_117 : decode cX9_follows 117 = .ok (.iastore, 1) := by decide +kernel
theorem dX9_follows_118 : decode cX9_follows 118 = .ok (.aload_n 0, 1) := by decide +kernel
theorem dX9_follows_119 : decode cX9_follows 119 = .ok (.getfield 7, 3) := by decide +kernel
theorem dX9_follows_122 : decode cX9_follows 122 = .ok (.iconst 3, 1) := by decide +kernel
theorem dX9_follows_123 : decode cX9_follows 123 = .ok (.iload_n 2, 1) := by decide +kernel
theorem dX9_follows_124 : decode cX9_follows 124 = .ok (.ifCond .eq 7, 3) := by decide +kernel
theorem dX9_follows_127 : decode cX9_follows 127 = .ok (.iconst 0, 1) := by decide +kernel
theorem dX9_follows_128 : decode cX9_follows 128 = .ok (.goto 6, 3) := by decide +kernel
theorem dX9_follows_131 : decode cX9_follows 131 = .ok (.iload_n 1, 1) := by decide +kernel
theorem dX9_follows_132 : decode cX9_follows 132 = .ok (.iconst 1, 1) := by decide +kernel
theorem dX9_follows_133 : decode cX9_follows 133 = .ok (.iadd, 1) := by decide +kernel
theorem dX9_follows_134 : decode cX9_follows 134 = .ok (.iastore, 1) := by decide +kernel
theorem dX9_follows_135 : decode cX9_follows 135 = .ok (.aload_n 0, 1) := by decide +kernel
theorem dX9_follows_136 : decode cX9_follows 136 = .ok (.invokevirtual 97, 3) := by decide +kernel
theorem dX9_follows_139 : decode cX9_follows 139 = .ok (.return_, 1) := by decide +kernel
theorem dX9_drains_0 : decode cX9_drains 0 = .ok (.aload_n 0, 1) := by decide +kernel
theorem dX9_drains_1 : decode cX9_drains 1 = .ok (.invokevirtual 156, 3) := by decide +kernel
theorem dX9_drains_4 : decode cX9_drains 4 = .ok (.ifCond .eq 13, 3) := by decide +kernel
theorem dX9_drains_7 : decode cX9_drains 7 = .ok (.aload_n 0, 1) := by decide +kernel
theorem dX9_drains_8 : decode cX9_drains 8 = .ok (.getfield 7, 3) := by decide +kernel
theorem dX9_drains_11 : decode cX9_drains 11 = .ok (.bipush 12, 2) := by decide +kernel
theorem dX9_drains_13 : decode cX9_drains 13 = .ok (.iconst 1, 1) := by decide +kernel
theorem dX9_drains_14 : decode cX9_drains 14 = .ok (.iastore, 1) := by decide +kernel
theorem dX9_drains_15 : decode cX9_drains 15 = .ok (.iconst 0, 1) := by decide +kernel
theorem dX9_drains_16 : decode cX9_drains 16 = .ok (.ireturn, 1) := by decide +kernel
theorem dX9_drains_17 : decode cX9_drains 17 = .ok (.aload_n 0, 1) := by decide +kernel
theorem dX9_drains_18 : decode cX9_drains 18 = .ok (.getfield 7, 3) := by decide +kernel
theorem dX9_drains_21 : decode cX9_drains 21 = .ok (.bipush 14, 2) := by decide +kernel
theorem dX9_drains_23 : decode cX9_drains 23 = .ok (.dup2, 1) := by decide +kernel
theorem dX9_drains_24 : decode cX9_drains 24 = .ok (.iaload, 1) := by decide +kernel
theorem dX9_drains_25 : decode cX9_drains 25 = .ok (.iconst 1, 1) := by decide +kernel
theorem dX9_drains_26 : decode cX9_drains 26 = .ok (.iadd, 1) := by decide +kernel
theorem dX9_drains_27 : decode cX9_drains 27 = .ok (.iastore, 1) := by decide +kernel
theorem dX9_drains_28 : decode cX9_drains 28 = .ok (.aload_n 0, 1) := by decide +kernel
theorem dX9_drains_29 : decode cX9_drains 29 = .ok (.invokevirtual 113, 3) := by decide +kernel
theorem dX9_drains_32 : decode cX9_drains 32 = .ok (.ifCond .eq 7, 3) := by decide +kernel
theorem dX9_drains_35 : decode cX9_drains 35 = .ok (.iconst 0, 1) := by decide +kernel
theorem dX9_drains_36 : decode cX9_drains 36 = .ok (.goto 18, 3) := by decide +kernel
theorem dX9_drains_39 : decode cX9_drains 39 = .ok (.aload_n 0, 1) := by decide +kernel
theorem dX9_drains_40 : decode cX9_drains 40 = .ok (.iconst 3, 1) := by decide +kernel
theorem dX9_drains_41 : decode cX9_drains 41 = .ok (.bipush 100, 2) := by decide +kernel
theorem dX9_drains_43 : decode cX9_drains 43 = .ok (.aload_n 0, 1) := by decide +kernel
theorem dX9_drains_44 : decode cX9_drains 44 = .ok (.getfield 7, 3) := by decide +kernel
theorem dX9_drains_47 : decode cX9_drains 47 = .ok (.bipush 7, 2) := by decide +kernel
theorem dX9_drains_49 : decode cX9_drains 49 = .ok (.iaload, 1) := by decide +kernel
theorem dX9_drains_50 : decode cX9_drains 50 = .ok (.imul, 1) := by decide +kernel
theorem dX9_drains_51 : decode cX9_drains 51 = .ok (.invokevirtual 119, 3) := by decide +kernel
theorem dX9_drains_54 : decode cX9_drains 54 = .ok (.istore_n 1, 1) := by decide +kernel
theorem dX9_drains_55 : decode cX9_drains 55 = .ok (.aload_n 0, 1) := by decide +kernel
theorem dX9_drains_56 : decode cX9_drains 56 = .ok (.invokevirtual 159, 3) := by decide +kernel
theorem dX9_drains_59 : decode cX9_drains 59 = .ok (.iload_n 1, 1) := by decide +kernel
theorem dX9_drains_60 : decode cX9_drains 60 = .ok (.ireturn, 1) := by decide +kernel
theorem dX9_drain_0 : decode cX9_drain 0 = .ok (.aload_n 0, 1) := by decide +kernel
theorem dX9_drain_1 : decode cX9_drain 1 = .ok (.invokevirtual 80, 3) := by decide +kernel
theorem dX9_drain_4 : decode cX9_drain 4 = .ok (.aload_n 0, 1) := by decide +kernel
theorem dX9_drain_5 : decode cX9_drain 5 = .ok (.invokevirtual 76, 3) := by decide +kernel
theorem dX9_drain_8 : decode cX9_drain 8 = .ok (.ifCond .eq 14, 3) := by decide +kernel
theorem dX9_drain_11 : decode cX9_drain 11 = .ok (.aload_n 0, 1) := by decide +kernel
theorem dX9_drain_12 : decode cX9_drain 12 = .ok (.aload_n 0, 1) := by decide +kernel
theorem dX9_drain_13 : decode cX9_drain 13 = .ok (.invokevirtual 162, 3) := by decide +kernel
theorem dX9_drain_16 : decode cX9_drain 16 = .ok (.invokevirtual 94, 3) := by decide +kernel
theorem dX9_drain_19 : decode cX9_drain 19 = .ok (.goto 8, 3) := by decide +kernel
theorem dX9_drain_22 : decode cX9_drain 22 = .ok (.aload_n 0, 1) := by decide +kernel
theorem dX9_drain_23 : decode cX9_drain 23 = .ok (.iconst 1, 1) := by decide +kernel
theorem dX9_drain_24 : decode cX9_drain 24 = .ok (.invokevirtual 87, 3) := by decide +kernel
theorem dX9_drain_27 : decode cX9_drain 27 = .ok (.ireturn, 1) := by decide +kernel
theorem dX9_plain_0 : decode cX9_plain 0 = .ok (.aload_n 0, 1) := by decide +kernel
theorem dX9_plain_1 : decode cX9_plain 1 = .ok (.iconst 0, 1) := by decide +kernel
theorem dX9_plain_2 : decode cX9_plain 2 = .ok (.putfield 25, 3) := by decide +kernel
theorem dX9_plain_5 : decode cX9_plain 5 = .ok (.iload_n 1, 1) := by decide +kernel
theorem dX9_plain_6 : decode cX9_plain 6 = .ok (.ireturn, 1) := by decide +kernel
theorem dX9_running_0 : decode cX9_running 0 = .ok (.aload_n 0, 1) := by decide +kernel
theorem dX9_running_1 : decode cX9_running 1 = .ok (.aload_n 0, 1) := by decide +kernel
theorem dX9_running_2 : decode cX9_running 2 = .ok (.invokevirtual 76, 3) := by decide +kernel
theorem dX9_running_5 : decode cX9_running 5 = .ok (.ifCond .eq 7, 3) := by decide +kernel
theorem dX9_running_8 : decode cX9_running 8 = .ok (.iconst 0, 1) := by decide +kernel
theorem dX9_running_9 : decode cX9_running 9 = .ok (.goto 4, 3) := by decide +kernel
theorem dX9_running_12 : decode cX9_running 12 = .ok (.iconst 1, 1) := by decide +kernel
theorem dX9_running_13 : decode cX9_running 13 = .ok (.putfield 25, 3) := by decide +kernel
theorem dX9_running_16 : decode cX9_running 16 = .ok (.aload_n 0, 1) := by decide +kernel
theorem dX9_running_17 : decode cX9_running 17 = .ok (.getfield 25, 3) := by decide +kernel
theorem dX9_running_20 : decode cX9_running 20 = .ok (.ifCond .le 7, 3) := by decide +kernel
theorem dX9_running_23 : decode cX9_running 23 = .ok (.iconst 0, 1) := by decide +kernel
theorem dX9_running_24 : decode cX9_running 24 = .ok (.goto 4, 3) := by decide +kernel
theorem dX9_running_27 : decode cX9_running 27 = .ok (.iload_n 1, 1) := by decide +kernel
theorem dX9_running_28 : decode cX9_running 28 = .ok (.ireturn, 1) := by decide +kernel
theorem dX9_isRunning_0 : decode cX9_isRunning 0 = .ok (.aload_n 0, 1) := by decide +kernel
theorem dX9_isRunning_1 : decode cX9_isRunning 1 = .ok (.aload_n 0, 1) := by decide +kernel
theorem dX9_isRunning_2 : decode cX9_isRunning 2 = .ok (.getfield 7, 3) := by decide +kernel
theorem dX9_isRunning_5 : decode cX9_isRunning 5 = .ok (.iconst 0, 1) := by decide +kernel
theorem dX9_isRunning_6 : decode cX9_isRunning 6 = .ok (.iaload, 1) := by decide +kernel
theorem dX9_isRunning_7 : decode cX9_isRunning 7 = .ok (.invokevirtual 165, 3) := by decide +kernel
theorem dX9_isRunning_10 : decode cX9_isRunning 10 = .ok (.iconst 1, 1) := by decide +kernel
theorem dX9_isRunning_11 : decode cX9_isRunning 11 = .ok (.if_icmp .ne 7, 3) := by decide +kernel
theorem dX9_isRunning_14 : decode cX9_isRunning 14 = .ok (.iconst 1, 1) := by decide +kernel
theorem dX9_isRunning_15 : decode cX9_isRunning 15 = .ok (.goto 4, 3) := by decide +kernel
theorem dX9_isRunning_18 : decode cX9_isRunning 18 = .ok (.iconst 0, 1) := by decide +kernel
theorem dX9_isRunning_19 : decode cX9_isRunning 19 = .ok (.ireturn, 1) := by decide +kernel
theorem dX9_gameCount_0 : decode cX9_gameCount 0 = .ok (.aload_n 0, 1) := by decide +kernel
theorem dX9_gameCount_1 : decode cX9_gameCount 1 = .ok (.aload_n 0, 1) := by decide +kernel
theorem dX9_gameCount_2 : decode cX9_gameCount 2 = .ok (.getfield 7, 3) := by decide +kernel
theorem dX9_gameCount_5 : decode cX9_gameCount 5 = .ok (.iconst 1, 1) := by decide +kernel
theorem dX9_gameCount_6 : decode cX9_gameCount 6 = .ok (.iaload, 1) := by decide +kernel
theorem dX9_gameCount_7 : decode cX9_gameCount 7 = .ok (.invokevirtual 165, 3) := by decide +kernel
theorem dX9_gameCount_10 : decode cX9_gameCount 10 = .ok (.ireturn, 1) := by decide +kernel
theorem dX9_playerCount_0 : decode cX9_playerCount 0 = .ok (.aload_n 0, 1) := by decide +kernel
theorem dX9_playerCount_1 : decode cX9_playerCount 1 = .ok (.aload_n 0, 1) := by decide +kernel
theorem dX9_playerCount_2 : decode cX9_playerCount 2 = .ok (.getfield 7, 3) := by decide +kernel
theorem dX9_playerCount_5 : decode cX9_playerCount 5 = .ok (.iconst 2, 1) := by decide +kernel
theorem dX9_playerCount_6 : decode cX9_playerCount 6 = .ok (.iaload, 1) := by decide +kernel
theorem dX9_playerCount_7 : decode cX9_playerCount 7 = .ok (.invokevirtual 165, 3) := by decide +kernel
theorem dX9_playerCount_10 : decode cX9_playerCount 10 = .ok (.ireturn, 1) := by decide +kernel
theorem dX9_currentPlayer_0 : decode cX9_currentPlayer 0 = .ok (.aload_n 0, 1) := by decide +kernel
theorem dX9_currentPlayer_1 : decode cX9_currentPlayer 1 = .ok (.aload_n 0, 1) := by decide +kernel
theorem dX9_currentPlayer_2 : decode cX9_currentPlayer 2 = .ok (.getfield 7, 3) := by decide +kernel
theorem dX9_currentPlayer_5 : decode cX9_currentPlayer 5 = .ok (.iconst 3, 1) := by decide +kernel
theorem dX9_currentPlayer_6 : decode cX9_currentPlayer 6 = .ok (.iaload, 1) := by decide +kernel
theorem dX9_currentPlayer_7 : decode cX9_currentPlayer 7 = .ok (.invokevirtual 168, 3) := by decide +kernel
theorem dX9_currentPlayer_10 : decode cX9_currentPlayer 10 = .ok (.ireturn, 1) := by decide +kernel
theorem dX9_ballNumber_0 : decode cX9_ballNumber 0 = .ok (.aload_n 0, 1) := by decide +kernel
theorem dX9_ballNumber_1 : decode cX9_ballNumber 1 = .ok (.aload_n 0, 1) := by decide +kernel
theorem dX9_ballNumber_2 : decode cX9_ballNumber 2 = .ok (.getfield 7, 3) := by decide +kernel
theorem dX9_ballNumber_5 : decode cX9_ballNumber 5 = .ok (.iconst 4, 1) := by decide +kernel
theorem dX9_ballNumber_6 : decode cX9_ballNumber 6 = .ok (.iaload, 1) := by decide +kernel
theorem dX9_ballNumber_7 : decode cX9_ballNumber 7 = .ok (.invokevirtual 168, 3) := by decide +kernel
theorem dX9_ballNumber_10 : decode cX9_ballNumber 10 = .ok (.ireturn, 1) := by decide +kernel
theorem dX9_ofPlayer_0 : decode cX9_ofPlayer 0 = .ok (.aload_n 0, 1) := by decide +kernel
theorem dX9_ofPlayer_1 : decode cX9_ofPlayer 1 = .ok (.iload_n 1, 1) := by decide +kernel
theorem dX9_ofPlayer_2 : decode cX9_ofPlayer 2 = .ok (.iconst 0, 1) := by decide +kernel
theorem dX9_ofPlayer_3 : decode cX9_ofPlayer 3 = .ok (.aload_n 0, 1) := by decide +kernel
theorem dX9_ofPlayer_4 : decode cX9_ofPlayer 4 = .ok (.getfield 7, 3) := by decide +kernel
theorem dX9_ofPlayer_7 : decode cX9_ofPlayer 7 = .ok (.iconst 2, 1) := by decide +kernel
theorem dX9_ofPlayer_8 : decode cX9_ofPlayer 8 = .ok (.iaload, 1) := by decide +kernel
theorem dX9_ofPlayer_9 : decode cX9_ofPlayer 9 = .ok (.iconst 1, 1) := by decide +kernel
theorem dX9_ofPlayer_10 : decode cX9_ofPlayer 10 = .ok (.isub, 1) := by decide +kernel
theorem dX9_ofPlayer_11 : decode cX9_ofPlayer 11 = .ok (.invokestatic 127, 3) := by decide +kernel
theorem dX9_ofPlayer_14 : decode cX9_ofPlayer 14 = .ok (.ifCond .eq 7, 3) := by decide +kernel
theorem dX9_ofPlayer_17 : decode cX9_ofPlayer 17 = .ok (.iconst 0, 1) := by decide +kernel
theorem dX9_ofPlayer_18 : decode cX9_ofPlayer 18 = .ok (.goto 4, 3) := by decide +kernel
theorem dX9_ofPlayer_21 : decode cX9_ofPlayer 21 = .ok (.iconst 1, 1) := by decide +kernel
theorem dX9_ofPlayer_22 : decode cX9_ofPlayer 22 = .ok (.putfield 25, 3) := by decide +kernel
theorem dX9_ofPlayer_25 : decode cX9_ofPlayer 25 = .ok (.aload_n 0, 1) := by decide +kernel
theorem dX9_ofPlayer_26 : decode cX9_ofPlayer 26 = .ok (.getfield 25, 3) := by decide +kernel
theorem dX9_ofPlayer_29 : decode cX9_ofPlayer 29 = .ok (.ifCond .le 7, 3) := by decide +kernel
theorem dX9_ofPlayer_32 : decode cX9_ofPlayer 32 = .ok (.iconst 0, 1) := by decide +kernel
theorem dX9_ofPlayer_33 : decode cX9_ofPlayer 33 = .ok (.goto 11, 3) := by decide +kernel
theorem dX9_ofPlayer_36 : decode cX9_ofPlayer 36 = .ok (.aload_n 0, 1) := by decide +kernel
theorem dX9_ofPlayer_37 : decode cX9_ofPlayer 37 = .ok (.getfield 7, 3) := by decide +kernel
theorem dX9_ofPlayer_40 : decode cX9_ofPlayer 40 = .ok (.iload_n 2, 1) := by decide +kernel
theorem dX9_ofPlayer_41 : decode cX9_ofPlayer 41 = .ok (.iload_n 1, 1) := by decide +kernel
theorem dX9_ofPlayer_42 : decode cX9_ofPlayer 42 = .ok (.iadd, 1) := by decide +kernel
theorem dX9_ofPlayer_43 : decode cX9_ofPlayer 43 = .ok (.iaload, 1) := by decide +kernel
theorem dX9_ofPlayer_44 : decode cX9_ofPlayer 44 = .ok (.ireturn, 1) := by decide +kernel
theorem dX9_score_0 : decode cX9_score 0 = .ok (.aload_n 0, 1) := by decide +kernel
theorem dX9_score_1 : decode cX9_score 1 = .ok (.iload_n 1, 1) := by decide +kernel
theorem dX9_score_2 : decode cX9_score 2 = .ok (.bipush 30, 2) := by decide +kernel
theorem dX9_score_4 : decode cX9_score 4 = .ok (.invokevirtual 171, 3) := by decide +kernel
theorem dX9_score_7 : decode cX9_score 7 = .ok (.ireturn, 1) := by decide +kernel
theorem dX9_extraBalls_0 : decode cX9_extraBalls 0 = .ok (.aload_n 0, 1) := by decide +kernel
theorem dX9_extraBalls_1 : decode cX9_extraBalls 1 = .ok (.iload_n 1, 1) := by decide +kernel
theorem dX9_extraBalls_2 : decode cX9_extraBalls 2 = .ok (.bipush 34, 2) := by decide +kernel
theorem dX9_extraBalls_4 : decode cX9_extraBalls 4 = .ok (.invokevirtual 171, 3) := by decide +kernel
theorem dX9_extraBalls_7 : decode cX9_extraBalls 7 = .ok (.ireturn, 1) := by decide +kernel
theorem dX9_isAhead_0 : decode cX9_isAhead 0 = .ok (.aload_n 0, 1) := by decide +kernel
theorem dX9_isAhead_1 : decode cX9_isAhead 1 = .ok (.getfield 7, 3) := by decide +kernel
theorem dX9_isAhead_4 : decode cX9_isAhead 4 = .ok (.bipush 30, 2) := by decide +kernel
theorem dX9_isAhead_6 : decode cX9_isAhead 6 = .ok (.iload_n 1, 1) := by decide +kernel
theorem dX9_isAhead_7 : decode cX9_isAhead 7 = .ok (.iadd, 1) := by decide +kernel
theorem dX9_isAhead_8 : decode cX9_isAhead 8 = .ok (.iaload, 1) := by decide +kernel
theorem dX9_isAhead_9 : decode cX9_isAhead 9 = .ok (.aload_n 0, 1) := by decide +kernel
theorem dX9_isAhead_10 : decode cX9_isAhead 10 = .ok (.getfield 7, 3) := by decide +kernel
theorem dX9_isAhead_13 : decode cX9_isAhead 13 = .ok (.bipush 30, 2) := by decide +kernel
theorem dX9_isAhead_15 : decode cX9_isAhead 15 = .ok (.iload_n 2, 1) := by decide +kernel
theorem dX9_isAhead_16 : decode cX9_isAhead 16 = .ok (.iadd, 1) := by decide +kernel
theorem dX9_isAhead_17 : decode cX9_isAhead 17 = .ok (.iaload, 1) := by decide +kernel
theorem dX9_isAhead_18 : decode cX9_isAhead 18 = .ok (.if_icmp .eq 30, 3) := by decide +kernel
theorem dX9_isAhead_21 : decode cX9_isAhead 21 = .ok (.aload_n 0, 1) := by decide +kernel
theorem dX9_isAhead_22 : decode cX9_isAhead 22 = .ok (.getfield 7, 3) := by decide +kernel
theorem dX9_isAhead_25 : decode cX9_isAhead 25 = .ok (.bipush 30, 2) := by decide +kernel
theorem dX9_isAhead_27 : decode cX9_isAhead 27 = .ok (.iload_n 1, 1) := by decide +kernel
theorem dX9_isAhead_28 : decode cX9_isAhead 28 = .ok (.iadd, 1) := by decide +kernel
theorem dX9_isAhead_29 : decode cX9_isAhead 29 = .ok (.iaload, 1) := by decide +kernel
theorem dX9_isAhead_30 : decode cX9_isAhead 30 = .ok (.aload_n 0, 1) := by decide +kernel
theorem dX9_isAhead_31 : decode cX9_isAhead 31 = .ok (.getfield 7, 3) := by decide +kernel
theorem dX9_isAhead_34 : decode cX9_isAhead 34 = .ok (.bipush 30, 2) := by decide +kernel
theorem dX9_isAhead_36 : decode cX9_isAhead 36 = .ok (.iload_n 2, 1) := by decide +kernel
theorem dX9_isAhead_37 : decode cX9_isAhead 37 = .ok (.iadd, 1) := by decide +kernel
theorem dX9_isAhead_38 : decode cX9_isAhead 38 = .ok (.iaload, 1) := by decide +kernel
theorem dX9_isAhead_39 : decode cX9_isAhead 39 = .ok (.if_icmp .le 7, 3) := by decide +kernel
theorem dX9_isAhead_42 : decode cX9_isAhead 42 = .ok (.iconst 1, 1) := by decide +kernel
theorem dX9_isAhead_43 : decode cX9_isAhead 43 = .ok (.goto 4, 3) := by decide +kernel
theorem dX9_isAhead_46 : decode cX9_isAhead 46 = .ok (.iconst 0, 1) := by decide +kernel
theorem dX9_isAhead_47 : decode cX9_isAhead 47 = .ok (.ireturn, 1) := by decide +kernel
theorem dX9_isAhead_48 : decode cX9_isAhead 48 = .ok (.aload_n 0, 1) := by decide +kernel
theorem dX9_isAhead_49 : decode cX9_isAhead 49 = .ok (.getfield 7, 3) := by decide +kernel
theorem dX9_isAhead_52 : decode cX9_isAhead 52 = .ok (.bipush 34, 2) := by decide +kernel
theorem dX9_isAhead_54 : decode cX9_isAhead 54 = .ok (.iload_n 1, 1) := by decide +kernel
theorem dX9_isAhead_55 : decode cX9_isAhead 55 = .ok (.iadd, 1) := by decide +kernel
theorem dX9_isAhead_56 : decode cX9_isAhead 56 = .ok (.iaload, 1) := by decide +kernel
theorem dX9_isAhead_57 : decode cX9_isAhead 57 = .ok (.aload_n 0, 1) := by decide +kernel
theorem dX9_isAhead_58 : decode cX9_isAhead 58 = .ok (.getfield 7, 3) := by decide +kernel
theorem dX9_isAhead_61 : decode cX9_isAhead 61 = .ok (.bipush 34, 2) := by decide +kernel
theorem dX9_isAhead_63 : decode cX9_isAhead 63 = .ok (.iload_n 2, 1) := by decide +kernel
theorem dX9_isAhead_64 : decode cX9_isAhead 64 = .ok (.iadd, 1) := by decide +kernel
theorem dX9_isAhead_65 : decode cX9_isAhead 65 = .ok (.iaload, 1) := by decide +kernel
theorem dX9_isAhead_66 : decode cX9_isAhead 66 = .ok (.if_icmp .gt 29, 3) := by decide +kernel
theorem dX9_isAhead_69 : decode cX9_isAhead 69 = .ok (.aload_n 0, 1) := by decide +kernel
theorem dX9_isAhead_70 : decode cX9_isAhead 70 = .ok (.getfield 7, 3) := by decide +kernel
theorem dX9_isAhead_73 : decode cX9_isAhead 73 = .ok (.bipush 34, 2) := by decide +kernel
theorem dX9_isAhead_75 : decode cX9_isAhead 75 = .ok (.iload_n 1, 1) := by decide +kernel
theorem dX9_isAhead_76 : decode cX9_isAhead 76 = .ok (.iadd, 1) := by decide +kernel
theorem dX9_isAhead_77 : decode cX9_isAhead 77 = .ok (.iaload, 1) := by decide +kernel
theorem dX9_isAhead_78 : decode cX9_isAhead 78 = .ok (.aload_n 0, 1) := by decide +kernel
theorem dX9_isAhead_79 : decode cX9_isAhead 79 = .ok (.getfield 7, 3) := by decide +kernel
theorem dX9_isAhead_82 : decode cX9_isAhead 82 = .ok (.bipush 34, 2) := by decide +kernel
theorem dX9_isAhead_84 : decode cX9_isAhead 84 = .ok (.iload_n 2, 1) := by decide +kernel
theorem dX9_isAhead_85 : decode cX9_isAhead 85 = .ok (.iadd, 1) := by decide +kernel
theorem dX9_isAhead_86 : decode cX9_isAhead 86 = .ok (.iaload, 1) := by decide +kernel
theorem dX9_isAhead_87 : decode cX9_isAhead 87 = .ok (.if_icmp .ne 12, 3) := by decide +kernel
theorem dX9_isAhead_90 : decode cX9_isAhead 90 = .ok (.iload_n 1, 1) := by decide +kernel
theorem dX9_isAhead_91 : decode cX9_isAhead 91 = .ok (.iload_n 2, 1) := by decide +kernel
theorem dX9_isAhead_92 : decode cX9_isAhead 92 = .ok (.if_icmp .ge 7, 3) := by decide +kernel
theorem dX9_isAhead_95 : decode cX9_isAhead 95 = .ok (.iconst 1, 1) := by decide +kernel
theorem dX9_isAhead_96 : decode cX9_isAhead 96 = .ok (.goto 4, 3) := by decide +kernel
theorem dX9_isAhead_99 : decode cX9_isAhead 99 = .ok (.iconst 0, 1) := by decide +kernel
theorem dX9_isAhead_100 : decode cX9_isAhead 100 = .ok (.ireturn, 1) := by decide +kernel
theorem dX9_playerAtRank_0 : decode cX9_playerAtRank 0 = .ok (.aload_n 0, 1) := by decide +kernel
theorem dX9_playerAtRank_1 : decode cX9_playerAtRank 1 = .ok (.iconst 0, 1) := by decide +kernel
theorem dX9_playerAtRank_2 : decode cX9_playerAtRank 2 = .ok (.putfield 25, 3) := by decide +kernel
theorem dX9_playerAtRank_5 : decode cX9_playerAtRank 5 = .ok (.iconst 0, 1) := by decide +kernel
theorem dX9_playerAtRank_6 : decode cX9_playerAtRank 6 = .ok (.istore_n 2, 1) := by decide +kernel
theorem dX9_playerAtRank_7 : decode cX9_playerAtRank 7 = .ok (.iload_n 2, 1) := by decide +kernel
theorem dX9_playerAtRank_8 : decode cX9_playerAtRank 8 = .ok (.aload_n 0, 1) := by decide +kernel
theorem dX9_playerAtRank_9 : decode cX9_playerAtRank 9 = .ok (.getfield 7, 3) := by decide +kernel
theorem dX9_playerAtRank_12 : decode cX9_playerAtRank 12 = .ok (.iconst 2, 1) := by decide +kernel
theorem dX9_playerAtRank_13 : decode cX9_playerAtRank 13 = .ok (.iaload, 1) := by decide +kernel
theorem dX9_playerAtRank_14 : decode cX9_playerAtRank 14 = .ok (.if_icmp .ge 56, 3) := by decide +kernel
theorem dX9_playerAtRank_17 : decode cX9_playerAtRank 17 = .ok (.iconst 0, 1) := by decide +kernel
theorem dX9_playerAtRank_18 : decode cX9_playerAtRank 18 = .ok (.istore_n 3, 1) := by decide +kernel
theorem dX9_playerAtRank_19 : decode cX9_playerAtRank 19 = .ok (.iconst 0, 1) := by decide +kernel
theorem dX9_playerAtRank_20 : decode cX9_playerAtRank 20 = .ok (.istore 4, 2) := by decide +kernel
theorem dX9_playerAtRank_22 : decode cX9_playerAtRank 22 = .ok (.iload 4, 2) := by decide +kernel
theorem dX9_playerAtRank_24 : decode cX9_playerAtRank 24 = .ok (.aload_n 0, 1) := by decide +kernel
theorem dX9_playerAtRank_25 : decode cX9_playerAtRank 25 = .ok (.getfield 7, 3) := by decide +kernel
theorem dX9_playerAtRank_28 : decode cX9_playerAtRank 28 = .ok (.iconst 2, 1) := by decide +kernel
theorem dX9_playerAtRank_29 : decode cX9_playerAtRank 29 = .ok (.iaload, 1) := by decide +kernel
theorem dX9_playerAtRank_30 : decode cX9_playerAtRank 30 = .ok (.if_icmp .ge 27, 3) := by decide +kernel
theorem dX9_playerAtRank_33 : decode cX9_playerAtRank 33 = .ok (.iload_n 3, 1) := by decide +kernel
theorem dX9_playerAtRank_34 : decode cX9_playerAtRank 34 = .ok (.aload_n 0, 1) := by decide +kernel
theorem dX9_playerAtRank_35 : decode cX9_playerAtRank 35 = .ok (.iload 4, 2) := by decide +kernel
theorem dX9_playerAtRank_37 : decode cX9_playerAtRank 37 = .ok (.iload_n 2, 1) := by decide +kernel
theorem dX9_playerAtRank_38 : decode cX9_playerAtRank 38 = .ok (.invokevirtual 174, 3) := by decide +kernel
theorem dX9_playerAtRank_41 : decode cX9_playerAtRank 41 = .ok (.ifCond .eq 7, 3) := by decide +kernel
theorem dX9_playerAtRank_44 : decode cX9_playerAtRank 44 = .ok (.iconst 1, 1) := by decide +kernel
theorem dX9_playerAtRank_45 : decode cX9_playerAtRank 45 = .ok (.goto 4, 3) := by decide +kernel
theorem dX9_playerAtRank_48 : decode cX9_playerAtRank 48 = .ok (.iconst 0, 1) := by decide +kernel
theorem dX9_playerAtRank_49 : decode cX9_playerAtRank 49 = .ok (.iadd, 1) := by decide +kernel
theorem dX9_playerAtRank_50 : decode cX9_playerAtRank 50 = .ok (.istore_n 3, 1) := by decide +kernel
theorem dX9_playerAtRank_51 : decode cX9_playerAtRank 51 = .ok (.iinc 4 1, 3) := by decide +kernel
theorem dX9_playerAtRank_54 : decode cX9_playerAtRank 54 = .ok (.goto (-32), 3) := by decide +kernel
theorem dX9_playerAtRank_57 : decode cX9_playerAtRank 57 = .ok (.iload_n 3, 1) := by decide +kernel
theorem dX9_playerAtRank_58 : decode cX9_playerAtRank 58 = .ok (.iload_n 1, 1) := by decide +kernel
theorem dX9_playerAtRank_59 : decode cX9_playerAtRank 59 = .ok (.if_icmp .ne 5, 3) := by decide +kernel
theorem dX9_playerAtRank_62 : decode cX9_playerAtRank 62 = .ok (.iload_n 2, 1) := by decide +kernel
theorem dX9_playerAtRank_63 : decode cX9_playerAtRank 63 = .ok (.ireturn, 1) := by decide +kernel
theorem dX9_playerAtRank_64 : decode cX9_playerAtRank 64 = .ok (.iinc 2 1, 3) := by decide +kernel
theorem dX9_playerAtRank_67 : decode cX9_playerAtRank 67 = .ok (.goto (-60), 3) := by decide +kernel
theorem dX9_playerAtRank_70 : decode cX9_playerAtRank 70 = .ok (.aload_n 0, 1) := by decide +kernel
theorem dX9_playerAtRank_71 : decode cX9_playerAtRank 71 = .ok (.iconst 1, 1) := by decide +kernel
theorem dX9_playerAtRank_72 : decode cX9_playerAtRank 72 = .ok (.invokevirtual 87, 3) := by decide +kernel
theorem dX9_playerAtRank_75 : decode cX9_playerAtRank 75 = .ok (.ireturn, 1) := by decide +kernel
theorem dX9_multiplier_0 : decode cX9_multiplier 0 = .ok (.aload_n 0, 1) := by decide +kernel
theorem dX9_multiplier_1 : decode cX9_multiplier 1 = .ok (.aload_n 0, 1) := by decide +kernel
theorem dX9_multiplier_2 : decode cX9_multiplier 2 = .ok (.getfield 7, 3) := by decide +kernel
theorem dX9_multiplier_5 : decode cX9_multiplier 5 = .ok (.iconst 5, 1) := by decide +kernel
theorem dX9_multiplier_6 : decode cX9_multiplier 6 = .ok (.iaload, 1) := by decide +kernel
theorem dX9_multiplier_7 : decode cX9_multiplier 7 = .ok (.invokevirtual 168, 3) := by decide +kernel
theorem dX9_multiplier_10 : decode cX9_multiplier 10 = .ok (.ireturn, 1) := by decide +kernel
theorem dX9_part_0 : decode cX9_part 0 = .ok (.aload_n 0, 1) := by decide +kernel
theorem dX9_part_1 : decode cX9_part 1 = .ok (.aload_n 0, 1) := by decide +kernel
theorem dX9_part_2 : decode cX9_part 2 = .ok (.iload_n 1, 1) := by decide +kernel
theorem dX9_part_3 : decode cX9_part 3 = .ok (.iload_n 2, 1) := by decide +kernel
theorem dX9_part_4 : decode cX9_part 4 = .ok (.invokevirtual 131, 3) := by decide +kernel
theorem dX9_part_7 : decode cX9_part 7 = .ok (.putfield 25, 3) := by decide +kernel
theorem dX9_part_10 : decode cX9_part 10 = .ok (.aload_n 0, 1) := by decide +kernel
theorem dX9_part_11 : decode cX9_part 11 = .ok (.getfield 25, 3) := by decide +kernel
theorem dX9_part_14 : decode cX9_part 14 = .ok (.ifCond .le 7, 3) := by decide +kernel
theorem dX9_part_17 : decode cX9_part 17 = .ok (.iconst 0, 1) := by decide +kernel
theorem dX9_part_18 : decode cX9_part 18 = .ok (.goto 11, 3) := by decide +kernel
theorem dX9_part_21 : decode cX9_part 21 = .ok (.aload_n 0, 1) := by decide +kernel
theorem dX9_part_22 : decode cX9_part 22 = .ok (.getfield 7, 3) := by decide +kernel
theorem dX9_part_25 : decode cX9_part 25 = .ok (.iload_n 3, 1) := by decide +kernel
theorem dX9_part_26 : decode cX9_part 26 = .ok (.iload_n 1, 1) := by decide +kernel
theorem dX9_part_27 : decode cX9_part 27 = .ok (.iadd, 1) := by decide +kernel
theorem dX9_part_28 : decode cX9_part 28 = .ok (.iaload, 1) := by decide +kernel
theorem dX9_part_29 : decode cX9_part 29 = .ok (.ireturn, 1) := by decide +kernel
theorem dX9_isLit_0 : decode cX9_isLit 0 = .ok (.aload_n 0, 1) := by decide +kernel
theorem dX9_isLit_1 : decode cX9_isLit 1 = .ok (.iload_n 1, 1) := by decide +kernel
theorem dX9_isLit_2 : decode cX9_isLit 2 = .ok (.iconst 4, 1) := by decide +kernel
theorem dX9_isLit_3 : decode cX9_isLit 3 = .ok (.bipush 16, 2) := by decide +kernel
theorem dX9_isLit_5 : decode cX9_isLit 5 = .ok (.invokevirtual 177, 3) := by decide +kernel
theorem dX9_isLit_8 : decode cX9_isLit 8 = .ok (.iconst 1, 1) := by decide +kernel
theorem dX9_isLit_9 : decode cX9_isLit 9 = .ok (.if_icmp .ne 7, 3) := by decide +kernel
theorem dX9_isLit_12 : decode cX9_isLit 12 = .ok (.iconst 1, 1) := by decide +kernel
theorem dX9_isLit_13 : decode cX9_isLit 13 = .ok (.goto 4, 3) := by decide +kernel
theorem dX9_isLit_16 : decode cX9_isLit 16 = .ok (.iconst 0, 1) := by decide +kernel
theorem dX9_isLit_17 : decode cX9_isLit 17 = .ok (.ireturn, 1) := by decide +kernel
theorem dX9_bumperValue_0 : decode cX9_bumperValue 0 = .ok (.aload_n 0, 1) := by decide +kernel
theorem dX9_bumperValue_1 : decode cX9_bumperValue 1 = .ok (.iload_n 1, 1) := by decide +kernel
theorem dX9_bumperValue_2 : decode cX9_bumperValue 2 = .ok (.iconst 3, 1) := by decide +kernel
theorem dX9_bumperValue_3 : decode cX9_bumperValue 3 = .ok (.bipush 20, 2) := by decide +kernel
theorem dX9_bumperValue_5 : decode cX9_bumperValue 5 = .ok (.invokevirtual 177, 3) := by decide +kernel
theorem dX9_bumperValue_8 : decode cX9_bumperValue 8 = .ok (.ireturn, 1) := by decide +kernel
theorem dX9_isDown_0 : decode cX9_isDown 0 = .ok (.aload_n 0, 1) := by decide +kernel
theorem dX9_isDown_1 : decode cX9_isDown 1 = .ok (.iload_n 1, 1) := by decide +kernel
theorem dX9_isDown_2 : decode cX9_isDown 2 = .ok (.iconst 5, 1) := by decide +kernel
theorem dX9_isDown_3 : decode cX9_isDown 3 = .ok (.bipush 24, 2) := by decide +kernel
theorem dX9_isDown_5 : decode cX9_isDown 5 = .ok (.invokevirtual 177, 3) := by decide +kernel
theorem dX9_isDown_8 : decode cX9_isDown 8 = .ok (.iconst 1, 1) := by decide +kernel
theorem dX9_isDown_9 : decode cX9_isDown 9 = .ok (.if_icmp .ne 7, 3) := by decide +kernel
theorem dX9_isDown_12 : decode cX9_isDown 12 = .ok (.iconst 1, 1) := by decide +kernel
theorem dX9_isDown_13 : decode cX9_isDown 13 = .ok (.goto 4, 3) := by decide +kernel
theorem dX9_isDown_16 : decode cX9_isDown 16 = .ok (.iconst 0, 1) := by decide +kernel
theorem dX9_isDown_17 : decode cX9_isDown 17 = .ok (.ireturn, 1) := by decide +kernel
theorem dX9_completedBanks_0 : decode cX9_completedBanks 0 = .ok (.aload_n 0, 1) := by decide +kernel
theorem dX9_completedBanks_1 : decode cX9_completedBanks 1 = .ok (.aload_n 0, 1) := by decide +kernel
theorem dX9_completedBanks_2 : decode cX9_completedBanks 2 = .ok (.getfield 7, 3) := by decide +kernel
theorem dX9_completedBanks_5 : decode cX9_completedBanks 5 = .ok (.bipush 6, 2) := by decide +kernel
theorem dX9_completedBanks_7 : decode cX9_completedBanks 7 = .ok (.iaload, 1) := by decide +kernel
theorem dX9_completedBanks_8 : decode cX9_completedBanks 8 = .ok (.invokevirtual 168, 3) := by decide +kernel
theorem dX9_completedBanks_11 : decode cX9_completedBanks 11 = .ok (.ireturn, 1) := by decide +kernel
theorem dX9_bonusUnits_0 : decode cX9_bonusUnits 0 = .ok (.aload_n 0, 1) := by decide +kernel
theorem dX9_bonusUnits_1 : decode cX9_bonusUnits 1 = .ok (.aload_n 0, 1) := by decide +kernel
theorem dX9_bonusUnits_2 : decode cX9_bonusUnits 2 = .ok (.getfield 7, 3) := by decide +kernel
theorem dX9_bonusUnits_5 : decode cX9_bonusUnits 5 = .ok (.bipush 7, 2) := by decide +kernel
theorem dX9_bonusUnits_7 : decode cX9_bonusUnits 7 = .ok (.iaload, 1) := by decide +kernel
theorem dX9_bonusUnits_8 : decode cX9_bonusUnits 8 = .ok (.invokevirtual 168, 3) := by decide +kernel
theorem dX9_bonusUnits_11 : decode cX9_bonusUnits 11 = .ok (.ireturn, 1) := by decide +kernel
theorem dX9_tiltMeter_0 : decode cX9_tiltMeter 0 = .ok (.aload_n 0, 1) := by decide +kernel
theorem dX9_tiltMeter_1 : decode cX9_tiltMeter 1 = .ok (.aload_n 0, 1) := by decide +kernel
theorem dX9_tiltMeter_2 : decode cX9_tiltMeter 2 = .ok (.getfield 7, 3) := by decide +kernel
theorem dX9_tiltMeter_5 : decode cX9_tiltMeter 5 = .ok (.bipush 8, 2) := by decide +kernel
theorem dX9_tiltMeter_7 : decode cX9_tiltMeter 7 = .ok (.iaload, 1) := by decide +kernel
theorem dX9_tiltMeter_8 : decode cX9_tiltMeter 8 = .ok (.invokevirtual 168, 3) := by decide +kernel
theorem dX9_tiltMeter_11 : decode cX9_tiltMeter 11 = .ok (.ireturn, 1) := by decide +kernel
theorem dX9_warnings_0 : decode cX9_warnings 0 = .ok (.aload_n 0, 1) := by decide +kernel
theorem dX9_warnings_1 : decode cX9_warnings 1 = .ok (.aload_n 0, 1) := by decide +kernel
theorem dX9_warnings_2 : decode cX9_warnings 2 = .ok (.getfield 7, 3) := by decide +kernel
theorem dX9_warnings_5 : decode cX9_warnings 5 = .ok (.bipush 9, 2) := by decide +kernel
theorem dX9_warnings_7 : decode cX9_warnings 7 = .ok (.iaload, 1) := by decide +kernel
theorem dX9_warnings_8 : decode cX9_warnings 8 = .ok (.invokevirtual 168, 3) := by decide +kernel
theorem dX9_warnings_11 : decode cX9_warnings 11 = .ok (.ireturn, 1) := by decide +kernel
theorem dX9_isTilted_0 : decode cX9_isTilted 0 = .ok (.aload_n 0, 1) := by decide +kernel
theorem dX9_isTilted_1 : decode cX9_isTilted 1 = .ok (.aload_n 0, 1) := by decide +kernel
theorem dX9_isTilted_2 : decode cX9_isTilted 2 = .ok (.getfield 7, 3) := by decide +kernel
theorem dX9_isTilted_5 : decode cX9_isTilted 5 = .ok (.bipush 11, 2) := by decide +kernel
theorem dX9_isTilted_7 : decode cX9_isTilted 7 = .ok (.iaload, 1) := by decide +kernel
theorem dX9_isTilted_8 : decode cX9_isTilted 8 = .ok (.invokevirtual 168, 3) := by decide +kernel
theorem dX9_isTilted_11 : decode cX9_isTilted 11 = .ok (.iconst 1, 1) := by decide +kernel
theorem dX9_isTilted_12 : decode cX9_isTilted 12 = .ok (.if_icmp .ne 7, 3) := by decide +kernel
theorem dX9_isTilted_15 : decode cX9_isTilted 15 = .ok (.iconst 1, 1) := by decide +kernel
theorem dX9_isTilted_16 : decode cX9_isTilted 16 = .ok (.goto 4, 3) := by decide +kernel
theorem dX9_isTilted_19 : decode cX9_isTilted 19 = .ok (.iconst 0, 1) := by decide +kernel
theorem dX9_isTilted_20 : decode cX9_isTilted 20 = .ok (.ireturn, 1) := by decide +kernel
theorem dX9_hits_0 : decode cX9_hits 0 = .ok (.aload_n 0, 1) := by decide +kernel
theorem dX9_hits_1 : decode cX9_hits 1 = .ok (.aload_n 0, 1) := by decide +kernel
theorem dX9_hits_2 : decode cX9_hits 2 = .ok (.getfield 7, 3) := by decide +kernel
theorem dX9_hits_5 : decode cX9_hits 5 = .ok (.bipush 10, 2) := by decide +kernel
theorem dX9_hits_7 : decode cX9_hits 7 = .ok (.iaload, 1) := by decide +kernel
theorem dX9_hits_8 : decode cX9_hits 8 = .ok (.invokevirtual 168, 3) := by decide +kernel
theorem dX9_hits_11 : decode cX9_hits 11 = .ok (.ireturn, 1) := by decide +kernel
theorem dX9_wouldBeSaved_0 : decode cX9_wouldBeSaved 0 = .ok (.aload_n 0, 1) := by decide +kernel
theorem dX9_wouldBeSaved_1 : decode cX9_wouldBeSaved 1 = .ok (.aload_n 0, 1) := by decide +kernel
theorem dX9_wouldBeSaved_2 : decode cX9_wouldBeSaved 2 = .ok (.invokevirtual 156, 3) := by decide +kernel
theorem dX9_wouldBeSaved_5 : decode cX9_wouldBeSaved 5 = .ok (.ifCond .eq 7, 3) := by decide +kernel
theorem dX9_wouldBeSaved_8 : decode cX9_wouldBeSaved 8 = .ok (.iconst 1, 1) := by decide +kernel
theorem dX9_wouldBeSaved_9 : decode cX9_wouldBeSaved 9 = .ok (.goto 4, 3) := by decide +kernel
theorem dX9_wouldBeSaved_12 : decode cX9_wouldBeSaved 12 = .ok (.iconst 0, 1) := by decide +kernel
theorem dX9_wouldBeSaved_13 : decode cX9_wouldBeSaved 13 = .ok (.invokevirtual 168, 3) := by decide +kernel
theorem dX9_wouldBeSaved_16 : decode cX9_wouldBeSaved 16 = .ok (.iconst 1, 1) := by decide +kernel
theorem dX9_wouldBeSaved_17 : decode cX9_wouldBeSaved 17 = .ok (.if_icmp .ne 7, 3) := by decide +kernel
theorem dX9_wouldBeSaved_20 : decode cX9_wouldBeSaved 20 = .ok (.iconst 1, 1) := by decide +kernel
theorem dX9_wouldBeSaved_21 : decode cX9_wouldBeSaved 21 = .ok (.goto 4, 3) := by decide +kernel
theorem dX9_wouldBeSaved_24 : decode cX9_wouldBeSaved 24 = .ok (.iconst 0, 1) := by decide +kernel
theorem dX9_wouldBeSaved_25 : decode cX9_wouldBeSaved 25 = .ok (.ireturn, 1) := by decide +kernel
theorem dX9_lanes_0 : decode cX9_lanes 0 = .ok (.iconst 0, 1) := by decide +kernel
theorem dX9_lanes_1 : decode cX9_lanes 1 = .ok (.istore_n 1, 1) := by decide +kernel
theorem dX9_lanes_2 : decode cX9_lanes 2 = .ok (.iconst 0, 1) := by decide +kernel
theorem dX9_lanes_3 : decode cX9_lanes 3 = .ok (.istore_n 2, 1) := by decide +kernel
theorem dX9_lanes_4 : decode cX9_lanes 4 = .ok (.iload_n 2, 1) := by decide +kernel
theorem dX9_lanes_5 : decode cX9_lanes 5 = .ok (.iconst 4, 1) := by decide +kernel
theorem dX9_lanes_6 : decode cX9_lanes 6 = .ok (.if_icmp .ge 23, 3) := by decide +kernel
theorem dX9_lanes_9 : decode cX9_lanes 9 = .ok (.iload_n 1, 1) := by decide +kernel
theorem dX9_lanes_10 : decode cX9_lanes 10 = .ok (.iconst 1, 1) := by decide +kernel
theorem dX9_lanes_11 : decode cX9_lanes 11 = .ok (.aload_n 0, 1) := by decide +kernel
theorem dX9_lanes_12 : decode cX9_lanes 12 = .ok (.getfield 7, 3) := by decide +kernel
theorem dX9_lanes_15 : decode cX9_lanes 15 = .ok (.bipush 16, 2) := by decide +kernel
theorem dX9_lanes_17 : decode cX9_lanes 17 = .ok (.iload_n 2, 1) := by decide +kernel
theorem dX9_lanes_18 : decode cX9_lanes 18 = .ok (.iadd, 1) := by decide +kernel
theorem dX9_lanes_19 : decode cX9_lanes 19 = .ok (.iaload, 1) := by decide +kernel
theorem dX9_lanes_20 : decode cX9_lanes 20 = .ok (.isub, 1) := by decide +kernel
theorem dX9_lanes_21 : decode cX9_lanes 21 = .ok (.iadd, 1) := by decide +kernel
theorem dX9_lanes_22 : decode cX9_lanes 22 = .ok (.istore_n 1, 1) := by decide +kernel
theorem dX9_lanes_23 : decode cX9_lanes 23 = .ok (.iinc 2 1, 3) := by decide +kernel
theorem dX9_lanes_26 : decode cX9_lanes 26 = .ok (.goto (-22), 3) := by decide +kernel
theorem dX9_lanes_29 : decode cX9_lanes 29 = .ok (.aload_n 0, 1) := by decide +kernel
theorem dX9_lanes_30 : decode cX9_lanes 30 = .ok (.invokevirtual 113, 3) := by decide +kernel
theorem dX9_lanes_33 : decode cX9_lanes 33 = .ok (.ifCond .eq 7, 3) := by decide +kernel
theorem dX9_lanes_36 : decode cX9_lanes 36 = .ok (.iconst 0, 1) := by decide +kernel
theorem dX9_lanes_37 : decode cX9_lanes 37 = .ok (.goto 14, 3) := by decide +kernel
theorem dX9_lanes_40 : decode cX9_lanes 40 = .ok (.bipush 100, 2) := by decide +kernel
theorem dX9_lanes_42 : decode cX9_lanes 42 = .ok (.iload_n 1, 1) := by decide +kernel
theorem dX9_lanes_43 : decode cX9_lanes 43 = .ok (.imul, 1) := by decide +kernel
theorem dX9_lanes_44 : decode cX9_lanes 44 = .ok (.aload_n 0, 1) := by decide +kernel
theorem dX9_lanes_45 : decode cX9_lanes 45 = .ok (.getfield 7, 3) := by decide +kernel
theorem dX9_lanes_48 : decode cX9_lanes 48 = .ok (.iconst 5, 1) := by decide +kernel
theorem dX9_lanes_49 : decode cX9_lanes 49 = .ok (.iaload, 1) := by decide +kernel
theorem dX9_lanes_50 : decode cX9_lanes 50 = .ok (.imul, 1) := by decide +kernel
theorem dX9_lanes_51 : decode cX9_lanes 51 = .ok (.ireturn, 1) := by decide +kernel
theorem dX9_laneRun_0 : decode cX9_laneRun 0 = .ok (.aload_n 0, 1) := by decide +kernel
theorem dX9_laneRun_1 : decode cX9_laneRun 1 = .ok (.aload_n 0, 1) := by decide +kernel
theorem dX9_laneRun_2 : decode cX9_laneRun 2 = .ok (.invokevirtual 181, 3) := by decide +kernel
theorem dX9_laneRun_5 : decode cX9_laneRun 5 = .ok (.invokevirtual 168, 3) := by decide +kernel
theorem dX9_laneRun_8 : decode cX9_laneRun 8 = .ok (.ireturn, 1) := by decide +kernel
theorem dX9_laneRunByCounting_0 : decode cX9_laneRunByCounting 0 = .ok (.aload_n 0, 1) := by decide +kernel
theorem dX9_laneRunByCounting_1 : decode cX9_laneRunByCounting 1 = .ok (.aload_n 0, 1) := by decide +kernel
theorem dX9_laneRunByCounting_2 : decode cX9_laneRunByCounting 2 = .ok (.invokevirtual 181, 3) := by decide +kernel
theorem dX9_laneRunByCounting_5 : decode cX9_laneRunByCounting 5 = .ok (.invokevirtual 168, 3) := by decide +kernel
theorem dX9_laneRunByCounting_8 : decode cX9_laneRunByCounting 8 = .ok (.ireturn, 1) := by decide +kernel
theorem dX9_bumpers_0 : decode cX9_bumpers 0 = .ok (.aload_n 0, 1) := by decide +kernel
theorem dX9_bumpers_1 : decode cX9_bumpers 1 = .ok (.iload_n 1, 1) := by decide +kernel
theorem dX9_bumpers_2 : decode cX9_bumpers 2 = .ok (.iconst 0, 1) := by decide +kernel
theorem dX9_bumpers_3 : decode cX9_bumpers 3 = .ok (.iconst 2, 1) := by decide +kernel
theorem dX9_bumpers_4 : decode cX9_bumpers 4 = .ok (.invokestatic 127, 3) := by decide +kernel
theorem dX9_bumpers_7 : decode cX9_bumpers 7 = .ok (.ifCond .ne 7, 3) := by decide +kernel
theorem dX9_bumpers_10 : decode cX9_bumpers 10 = .ok (.iconst 1, 1) := by decide +kernel
theorem dX9_bumpers_11 : decode cX9_bumpers 11 = .ok (.goto 29, 3) := by decide +kernel
theorem dX9_bumpers_14 : decode cX9_bumpers 14 = .ok (.iload_n 2, 1) := by decide +kernel
theorem dX9_bumpers_15 : decode cX9_bumpers 15 = .ok (.iconst 0, 1) := by decide +kernel
theorem dX9_bumpers_16 : decode cX9_bumpers 16 = .ok (.bipush 50, 2) := by decide +kernel
theorem dX9_bumpers_18 : decode cX9_bumpers 18 = .ok (.invokestatic 127, 3) := by decide +kernel
theorem dX9_bumpers_21 : decode cX9_bumpers 21 = .ok (.ifCond .ne 7, 3) := by decide +kernel
theorem dX9_bumpers_24 : decode cX9_bumpers 24 = .ok (.iconst 2, 1) := by decide +kernel
theorem dX9_bumpers_25 : decode cX9_bumpers 25 = .ok (.goto 15, 3) := by decide +kernel
theorem dX9_bumpers_28 : decode cX9_bumpers 28 = .ok (.aload_n 0, 1) := by decide +kernel
theorem dX9_bumpers_29 : decode cX9_bumpers 29 = .ok (.invokevirtual 76, 3) := by decide +kernel
theorem dX9_bumpers_32 : decode cX9_bumpers 32 = .ok (.ifCond .eq 7, 3) := by decide +kernel
theorem dX9_bumpers_35 : decode cX9_bumpers 35 = .ok (.iconst 0, 1) := by decide +kernel
theorem dX9_bumpers_36 : decode cX9_bumpers 36 = .ok (.goto 4, 3) := by decide +kernel
theorem dX9_bumpers_39 : decode cX9_bumpers 39 = .ok (.iconst 3, 1) := by decide +kernel
theorem dX9_bumpers_40 : decode cX9_bumpers 40 = .ok (.putfield 25, 3) := by decide +kernel
theorem dX9_bumpers_43 : decode cX9_bumpers 43 = .ok (.aload_n 0, 1) := by decide +kernel
theorem dX9_bumpers_44 : decode cX9_bumpers 44 = .ok (.getfield 25, 3) := by decide +kernel
theorem dX9_bumpers_47 : decode cX9_bumpers 47 = .ok (.ifCond .gt 10, 3) := by decide +kernel
theorem dX9_bumpers_50 : decode cX9_bumpers 50 = .ok (.aload_n 0, 1) := by decide +kernel
theorem dX9_bumpers_51 : decode cX9_bumpers 51 = .ok (.invokevirtual 113, 3) := by decide +kernel
theorem dX9_bumpers_54 : decode cX9_bumpers 54 = .ok (.ifCond .eq 5, 3) := by decide +kernel
theorem dX9_bumpers_57 : decode cX9_bumpers 57 = .ok (.iconst 0, 1) := by decide +kernel
theorem dX9_bumpers_58 : decode cX9_bumpers 58 = .ok (.ireturn, 1) := by decide +kernel
theorem dX9_bumpers_59 : decode cX9_bumpers 59 = .ok (.aload_n 0, 1) := by decide +kernel
theorem dX9_bumpers_60 : decode cX9_bumpers 60 = .ok (.getfield 7, 3) := by decide +kernel
theorem dX9_bumpers_63 : decode cX9_bumpers 63 = .ok (.bipush 20, 2) := by decide +kernel
theorem dX9_bumpers_65 : decode cX9_bumpers 65 = .ok (.iload_n 1, 1) := by decide +kernel
theorem dX9_bumpers_66 : decode cX9_bumpers 66 = .ok (.iadd, 1) := by decide +kernel
theorem dX9_bumpers_67 : decode cX9_bumpers 67 = .ok (.iaload, 1) := by decide +kernel
theorem dX9_bumpers_68 : decode cX9_bumpers 68 = .ok (.istore_n 3, 1) := by decide +kernel
theorem dX9_bumpers_69 : decode cX9_bumpers 69 = .ok (.iconst 0, 1) := by decide +kernel
theorem dX9_bumpers_70 : decode cX9_bumpers 70 = .ok (.istore 4, 2) := by decide +kernel
theorem dX9_bumpers_72 : decode cX9_bumpers 72 = .ok (.iconst 0, 1) := by decide +kernel
theorem dX9_bumpers_73 : decode cX9_bumpers 73 = .ok (.istore 5, 2) := by decide +kernel
theorem dX9_bumpers_75 : decode cX9_bumpers 75 = .ok (.iload 5, 2) := by decide +kernel
theorem dX9_bumpers_77 : decode cX9_bumpers 77 = .ok (.iload_n 2, 1) := by decide +kernel
theorem dX9_bumpers_78 : decode cX9_bumpers 78 = .ok (.if_icmp .ge 31, 3) := by decide +kernel
theorem dX9_bumpers_81 : decode cX9_bumpers 81 = .ok (.iload 4, 2) := by decide +kernel
theorem dX9_bumpers_83 : decode cX9_bumpers 83 = .ok (.iload_n 3, 1) := by decide +kernel
theorem dX9_bumpers_84 : decode cX9_bumpers 84 = .ok (.iadd, 1) := by decide +kernel
theorem dX9_bumpers_85 : decode cX9_bumpers 85 = .ok (.istore 4, 2) := by decide +kernel
theorem dX9_bumpers_87 : decode cX9_bumpers 87 = .ok (.iload_n 3, 1) := by decide +kernel
theorem dX9_bumpers_88 : decode cX9_bumpers 88 = .ok (.iload_n 3, 1) := by decide +kernel
theorem dX9_bumpers_89 : decode cX9_bumpers 89 = .ok (.sipush 200, 3) := by decide +kernel
theorem dX9_bumpers_92 : decode cX9_bumpers 92 = .ok (.if_icmp .ge 8, 3) := by decide +kernel
theorem dX9_bumpers_95 : decode cX9_bumpers 95 = .ok (.bipush 10, 2) := by decide +kernel
theorem dX9_bumpers_97 : decode cX9_bumpers 97 = .ok (.goto 4, 3) := by decide +kernel
theorem dX9_bumpers_100 : decode cX9_bumpers 100 = .ok (.iconst 0, 1) := by decide +kernel
theorem dX9_bumpers_101 : decode cX9_bumpers 101 = .ok (.iadd, 1) := by decide +kernel
theorem dX9_bumpers_102 : decode cX9_bumpers 102 = .ok (.istore_n 3, 1) := by decide +kernel
theorem dX9_bumpers_103 : decode cX9_bumpers 103 = .ok (.iinc 5 1, 3) := by decide +kernel
theorem dX9_bumpers_106 : decode cX9_bumpers 106 = .ok (.goto (-31), 3) := by decide +kernel
theorem dX9_bumpers_109 : decode cX9_bumpers 109 = .ok (.iload 4, 2) := by decide +kernel
theorem dX9_bumpers_111 : decode cX9_bumpers 111 = .ok (.aload_n 0, 1) := by decide +kernel
theorem dX9_bumpers_112 : decode cX9_bumpers 112 = .ok (.getfield 7, 3) := by decide +kernel
theorem dX9_bumpers_115 : decode cX9_bumpers 115 = .ok (.iconst 5, 1) := by decide +kernel
theorem dX9_bumpers_116 : decode cX9_bumpers 116 = .ok (.iaload, 1) := by decide +kernel
theorem dX9_bumpers_117 : decode cX9_bumpers 117 = .ok (.imul, 1) := by decide +kernel
theorem dX9_bumpers_118 : decode cX9_bumpers 118 = .ok (.ireturn, 1) := by decide +kernel
theorem dX9_bumperRun_0 : decode cX9_bumperRun 0 = .ok (.aload_n 0, 1) := by decide +kernel
theorem dX9_bumperRun_1 : decode cX9_bumperRun 1 = .ok (.iload_n 1, 1) := by decide +kernel
theorem dX9_bumperRun_2 : decode cX9_bumperRun 2 = .ok (.iload_n 2, 1) := by decide +kernel
theorem dX9_bumperRun_3 : decode cX9_bumperRun 3 = .ok (.invokevirtual 184, 3) := by decide +kernel
theorem dX9_bumperRun_6 : decode cX9_bumperRun 6 = .ok (.ireturn, 1) := by decide +kernel
theorem dX9_bumperRunBySeries_0 : decode cX9_bumperRunBySeries 0 = .ok (.aload_n 0, 1) := by decide +kernel
theorem dX9_bumperRunBySeries_1 : decode cX9_bumperRunBySeries 1 = .ok (.iload_n 1, 1) := by decide +kernel
theorem dX9_bumperRunBySeries_2 : decode cX9_bumperRunBySeries 2 = .ok (.iload_n 2, 1) := by decide +kernel
theorem dX9_bumperRunBySeries_3 : decode cX9_bumperRunBySeries 3 = .ok (.invokevirtual 184, 3) := by decide +kernel
theorem dX9_bumperRunBySeries_6 : decode cX9_bumperRunBySeries 6 = .ok (.ireturn, 1) := by decide +kernel
theorem dX9_bonusIfDrained_0 : decode cX9_bonusIfDrained 0 = .ok (.aload_n 0, 1) := by decide +kernel
theorem dX9_bonusIfDrained_1 : decode cX9_bonusIfDrained 1 = .ok (.aload_n 0, 1) := by decide +kernel
theorem dX9_bonusIfDrained_2 : decode cX9_bonusIfDrained 2 = .ok (.invokevirtual 113, 3) := by decide +kernel
theorem dX9_bonusIfDrained_5 : decode cX9_bonusIfDrained 5 = .ok (.ifCond .ne 10, 3) := by decide +kernel
theorem dX9_bonusIfDrained_8 : decode cX9_bonusIfDrained 8 = .ok (.aload_n 0, 1) := by decide +kernel
theorem dX9_bonusIfDrained_9 : decode cX9_bonusIfDrained 9 = .ok (.invokevirtual 156, 3) := by decide +kernel
theorem dX9_bonusIfDrained_12 : decode cX9_bonusIfDrained 12 = .ok (.ifCond .eq 7, 3) := by decide +kernel
theorem dX9_bonusIfDrained_15 : decode cX9_bonusIfDrained 15 = .ok (.iconst 0, 1) := by decide +kernel
theorem dX9_bonusIfDrained_16 : decode cX9_bonusIfDrained 16 = .ok (.goto 20, 3) := by decide +kernel
theorem dX9_bonusIfDrained_19 : decode cX9_bonusIfDrained 19 = .ok (.bipush 100, 2) := by decide +kernel
theorem dX9_bonusIfDrained_21 : decode cX9_bonusIfDrained 21 = .ok (.aload_n 0, 1) := by decide +kernel
theorem dX9_bonusIfDrained_22 : decode cX9_bonusIfDrained 22 = .ok (.getfield 7, 3) := by decide +kernel
theorem dX9_bonusIfDrained_25 : decode cX9_bonusIfDrained 25 = .ok (.bipush 7, 2) := by decide +kernel
theorem dX9_bonusIfDrained_27 : decode cX9_bonusIfDrained 27 = .ok (.iaload, 1) := by decide +kernel
theorem dX9_bonusIfDrained_28 : decode cX9_bonusIfDrained 28 = .ok (.imul, 1) := by decide +kernel
theorem dX9_bonusIfDrained_29 : decode cX9_bonusIfDrained 29 = .ok (.aload_n 0, 1) := by decide +kernel
theorem dX9_bonusIfDrained_30 : decode cX9_bonusIfDrained 30 = .ok (.getfield 7, 3) := by decide +kernel
theorem dX9_bonusIfDrained_33 : decode cX9_bonusIfDrained 33 = .ok (.iconst 5, 1) := by decide +kernel
theorem dX9_bonusIfDrained_34 : decode cX9_bonusIfDrained 34 = .ok (.iaload, 1) := by decide +kernel
theorem dX9_bonusIfDrained_35 : decode cX9_bonusIfDrained 35 = .ok (.imul, 1) := by decide +kernel
theorem dX9_bonusIfDrained_36 : decode cX9_bonusIfDrained 36 = .ok (.invokevirtual 168, 3) := by decide +kernel
theorem dX9_bonusIfDrained_39 : decode cX9_bonusIfDrained 39 = .ok (.ireturn, 1) := by decide +kernel
theorem dX9_nextPlayer_0 : decode cX9_nextPlayer 0 = .ok (.aload_n 0, 1) := by decide +kernel
theorem dX9_nextPlayer_1 : decode cX9_nextPlayer 1 = .ok (.aload_n 0, 1) := by decide +kernel
theorem dX9_nextPlayer_2 : decode cX9_nextPlayer 2 = .ok (.invokevirtual 76, 3) := by decide +kernel
theorem dX9_nextPlayer_5 : decode cX9_nextPlayer 5 = .ok (.ifCond .eq 7, 3) := by decide +kernel
theorem dX9_nextPlayer_8 : decode cX9_nextPlayer 8 = .ok (.iconst 0, 1) := by decide +kernel
theorem dX9_nextPlayer_9 : decode cX9_nextPlayer 9 = .ok (.goto 4, 3) := by decide +kernel
theorem dX9_nextPlayer_12 : decode cX9_nextPlayer 12 = .ok (.iconst 1, 1) := by decide +kernel
theorem dX9_nextPlayer_13 : decode cX9_nextPlayer 13 = .ok (.putfield 25, 3) := by decide +kernel
theorem dX9_nextPlayer_16 : decode cX9_nextPlayer 16 = .ok (.aload_n 0, 1) := by decide +kernel
theorem dX9_nextPlayer_17 : decode cX9_nextPlayer 17 = .ok (.getfield 25, 3) := by decide +kernel
theorem dX9_nextPlayer_20 : decode cX9_nextPlayer 20 = .ok (.ifCond .le 5, 3) := by decide +kernel
theorem dX9_nextPlayer_23 : decode cX9_nextPlayer 23 = .ok (.iconst 0, 1) := by decide +kernel
theorem dX9_nextPlayer_24 : decode cX9_nextPlayer 24 = .ok (.ireturn, 1) := by decide +kernel
theorem dX9_nextPlayer_25 : decode cX9_nextPlayer 25 = .ok (.aload_n 0, 1) := by decide +kernel
theorem dX9_nextPlayer_26 : decode cX9_nextPlayer 26 = .ok (.getfield 7, 3) := by decide +kernel
theorem dX9_nextPlayer_29 : decode cX9_nextPlayer 29 = .ok (.iconst 0, 1) := by decide +kernel
theorem dX9_nextPlayer_30 : decode cX9_nextPlayer 30 = .ok (.aload_n 0, 1) := by decide +kernel
theorem dX9_nextPlayer_31 : decode cX9_nextPlayer 31 = .ok (.getfield 16, 3) := by decide +kernel
theorem dX9_nextPlayer_34 : decode cX9_nextPlayer 34 = .ok (.iconst 0, 1) := by decide +kernel
theorem dX9_nextPlayer_35 : decode cX9_nextPlayer 35 = .ok (.invokestatic 72, 3) := by decide +kernel
theorem dX9_nextPlayer_38 : decode cX9_nextPlayer 38 = .ok (.aload_n 0, 1) := by decide +kernel
theorem dX9_nextPlayer_39 : decode cX9_nextPlayer 39 = .ok (.invokevirtual 162, 3) := by decide +kernel
theorem dX9_nextPlayer_42 : decode cX9_nextPlayer 42 = .ok (.istore_n 1, 1) := by decide +kernel
theorem dX9_nextPlayer_43 : decode cX9_nextPlayer 43 = .ok (.aload_n 0, 1) := by decide +kernel
theorem dX9_nextPlayer_44 : decode cX9_nextPlayer 44 = .ok (.invokevirtual 76, 3) := by decide +kernel
theorem dX9_nextPlayer_47 : decode cX9_nextPlayer 47 = .ok (.ifCond .ne 7, 3) := by decide +kernel
theorem dX9_nextPlayer_50 : decode cX9_nextPlayer 50 = .ok (.iconst 1, 1) := by decide +kernel
theorem dX9_nextPlayer_51 : decode cX9_nextPlayer 51 = .ok (.goto 4, 3) := by decide +kernel
theorem dX9_nextPlayer_54 : decode cX9_nextPlayer 54 = .ok (.iconst 0, 1) := by decide +kernel
theorem dX9_nextPlayer_55 : decode cX9_nextPlayer 55 = .ok (.istore_n 2, 1) := by decide +kernel
theorem dX9_nextPlayer_56 : decode cX9_nextPlayer 56 = .ok (.aload_n 0, 1) := by decide +kernel
theorem dX9_nextPlayer_57 : decode cX9_nextPlayer 57 = .ok (.getfield 7, 3) := by decide +kernel
theorem dX9_nextPlayer_60 : decode cX9_nextPlayer 60 = .ok (.iconst 3, 1) := by decide +kernel
theorem dX9_nextPlayer_61 : decode cX9_nextPlayer 61 = .ok (.iaload, 1) := by decide +kernel
theorem dX9_nextPlayer_62 : decode cX9_nextPlayer 62 = .ok (.istore_n 3, 1) := by decide +kernel
theorem dX9_nextPlayer_63 : decode cX9_nextPlayer 63 = .ok (.aload_n 0, 1) := by decide +kernel
theorem dX9_nextPlayer_64 : decode cX9_nextPlayer 64 = .ok (.getfield 16, 3) := by decide +kernel
theorem dX9_nextPlayer_67 : decode cX9_nextPlayer 67 = .ok (.iconst 0, 1) := by decide +kernel
theorem dX9_nextPlayer_68 : decode cX9_nextPlayer 68 = .ok (.aload_n 0, 1) := by decide +kernel
theorem dX9_nextPlayer_69 : decode cX9_nextPlayer 69 = .ok (.getfield 7, 3) := by decide +kernel
theorem dX9_nextPlayer_72 : decode cX9_nextPlayer 72 = .ok (.iconst 0, 1) := by decide +kernel
theorem dX9_nextPlayer_73 : decode cX9_nextPlayer 73 = .ok (.invokestatic 72, 3) := by decide +kernel
theorem dX9_nextPlayer_76 : decode cX9_nextPlayer 76 = .ok (.iload_n 2, 1) := by decide +kernel
theorem dX9_nextPlayer_77 : decode cX9_nextPlayer 77 = .ok (.ifCond .eq 11, 3) := by decide +kernel
theorem dX9_nextPlayer_80 : decode cX9_nextPlayer 80 = .ok (.aload_n 0, 1) := by decide +kernel
theorem dX9_nextPlayer_81 : decode cX9_nextPlayer 81 = .ok (.iconst 2, 1) := by decide +kernel
theorem dX9_nextPlayer_82 : decode cX9_nextPlayer 82 = .ok (.invokevirtual 87, 3) := by decide +kernel
theorem dX9_nextPlayer_85 : decode cX9_nextPlayer 85 = .ok (.goto 4, 3) := by decide +kernel
theorem dX9_nextPlayer_88 : decode cX9_nextPlayer 88 = .ok (.iload_n 3, 1) := by decide +kernel
theorem dX9_nextPlayer_89 : decode cX9_nextPlayer 89 = .ok (.ireturn, 1) := by decide +kernel
theorem dX9_recordCount_0 : decode cX9_recordCount 0 = .ok (.aload_n 0, 1) := by decide +kernel
theorem dX9_recordCount_1 : decode cX9_recordCount 1 = .ok (.aload_n 0, 1) := by decide +kernel
theorem dX9_recordCount_2 : decode cX9_recordCount 2 = .ok (.getfield 7, 3) := by decide +kernel
theorem dX9_recordCount_5 : decode cX9_recordCount 5 = .ok (.bipush 13, 2) := by decide +kernel
theorem dX9_recordCount_7 : decode cX9_recordCount 7 = .ok (.iaload, 1) := by decide +kernel
theorem dX9_recordCount_8 : decode cX9_recordCount 8 = .ok (.invokevirtual 165, 3) := by decide +kernel
theorem dX9_recordCount_11 : decode cX9_recordCount 11 = .ok (.ireturn, 1) := by decide +kernel
theorem dX9_record_0 : decode cX9_record 0 = .ok (.aload_n 0, 1) := by decide +kernel
theorem dX9_record_1 : decode cX9_record 1 = .ok (.iload_n 1, 1) := by decide +kernel
theorem dX9_record_2 : decode cX9_record 2 = .ok (.iconst 0, 1) := by decide +kernel
theorem dX9_record_3 : decode cX9_record 3 = .ok (.aload_n 0, 1) := by decide +kernel
theorem dX9_record_4 : decode cX9_record 4 = .ok (.getfield 7, 3) := by decide +kernel
theorem dX9_record_7 : decode cX9_record 7 = .ok (.bipush 13, 2) := by decide +kernel
theorem dX9_record_9 : decode cX9_record 9 = .ok (.iaload, 1) := by decide +kernel
theorem dX9_record_10 : decode cX9_record 10 = .ok (.iconst 1, 1) := by decide +kernel
theorem dX9_record_11 : decode cX9_record 11 = .ok (.isub, 1) := by decide +kernel
theorem dX9_record_12 : decode cX9_record 12 = .ok (.invokestatic 127, 3) := by decide +kernel
theorem dX9_record_15 : decode cX9_record 15 = .ok (.ifCond .eq 7, 3) := by decide +kernel
theorem dX9_record_18 : decode cX9_record 18 = .ok (.iconst 0, 1) := by decide +kernel
theorem dX9_record_19 : decode cX9_record 19 = .ok (.goto 4, 3) := by decide +kernel
theorem dX9_record_22 : decode cX9_record 22 = .ok (.iconst 1, 1) := by decide +kernel
theorem dX9_record_23 : decode cX9_record 23 = .ok (.putfield 25, 3) := by decide +kernel
theorem dX9_record_26 : decode cX9_record 26 = .ok (.aload_n 0, 1) := by decide +kernel
theorem dX9_record_27 : decode cX9_record 27 = .ok (.getfield 25, 3) := by decide +kernel
theorem dX9_record_30 : decode cX9_record 30 = .ok (.ifCond .le 7, 3) := by decide +kernel
theorem dX9_record_33 : decode cX9_record 33 = .ok (.iconst 0, 1) := by decide +kernel
theorem dX9_record_34 : decode cX9_record 34 = .ok (.goto 16, 3) := by decide +kernel
theorem dX9_record_37 : decode cX9_record 37 = .ok (.aload_n 0, 1) := by decide +kernel
theorem dX9_record_38 : decode cX9_record 38 = .ok (.getfield 7, 3) := by decide +kernel
theorem dX9_record_41 : decode cX9_record 41 = .ok (.bipush 46, 2) := by decide +kernel
theorem dX9_record_43 : decode cX9_record 43 = .ok (.iconst 3, 1) := by decide +kernel
theorem dX9_record_44 : decode cX9_record 44 = .ok (.iload_n 1, 1) := by decide +kernel
theorem dX9_record_45 : decode cX9_record 45 = .ok (.imul, 1) := by decide +kernel
theorem dX9_record_46 : decode cX9_record 46 = .ok (.iadd, 1) := by decide +kernel
theorem dX9_record_47 : decode cX9_record 47 = .ok (.iload_n 2, 1) := by decide +kernel
theorem dX9_record_48 : decode cX9_record 48 = .ok (.iadd, 1) := by decide +kernel
theorem dX9_record_49 : decode cX9_record 49 = .ok (.iaload, 1) := by decide +kernel
theorem dX9_record_50 : decode cX9_record 50 = .ok (.ireturn, 1) := by decide +kernel
theorem dX9_recordScore_0 : decode cX9_recordScore 0 = .ok (.aload_n 0, 1) := by decide +kernel
theorem dX9_recordScore_1 : decode cX9_recordScore 1 = .ok (.iload_n 1, 1) := by decide +kernel
theorem dX9_recordScore_2 : decode cX9_recordScore 2 = .ok (.iconst 0, 1) := by decide +kernel
theorem dX9_recordScore_3 : decode cX9_recordScore 3 = .ok (.invokevirtual 187, 3) := by decide +kernel
theorem dX9_recordScore_6 : decode cX9_recordScore 6 = .ok (.ireturn, 1) := by decide +kernel
theorem dX9_recordPlayer_0 : decode cX9_recordPlayer 0 = .ok (.aload_n 0, 1) := by decide +kernel
theorem dX9_recordPlayer_1 : decode cX9_recordPlayer 1 = .ok (.iload_n 1, 1) := by decide +kernel
theorem dX9_recordPlayer_2 : decode cX9_recordPlayer 2 = .ok (.iconst 1, 1) := by decide +kernel
theorem dX9_recordPlayer_3 : decode cX9_recordPlayer 3 = .ok (.invokevirtual 187, 3) := by decide +kernel
theorem dX9_recordPlayer_6 : decode cX9_recordPlayer 6 = .ok (.ireturn, 1) := by decide +kernel
theorem dX9_recordGame_0 : decode cX9_recordGame 0 = .ok (.aload_n 0, 1) := by decide +kernel
theorem dX9_recordGame_1 : decode cX9_recordGame 1 = .ok (.iload_n 1, 1) := by decide +kernel
theorem dX9_recordGame_2 : decode cX9_recordGame 2 = .ok (.iconst 2, 1) := by decide +kernel
theorem dX9_recordGame_3 : decode cX9_recordGame 3 = .ok (.invokevirtual 187, 3) := by decide +kernel
theorem dX9_recordGame_6 : decode cX9_recordGame 6 = .ok (.ireturn, 1) := by decide +kernel
theorem dX9_pointsTotal_0 : decode cX9_pointsTotal 0 = .ok (.aload_n 0, 1) := by decide +kernel
theorem dX9_pointsTotal_1 : decode cX9_pointsTotal 1 = .ok (.aload_n 0, 1) := by decide +kernel
theorem dX9_pointsTotal_2 : decode cX9_pointsTotal 2 = .ok (.getfield 7, 3) := by decide +kernel
theorem dX9_pointsTotal_5 : decode cX9_pointsTotal 5 = .ok (.bipush 42, 2) := by decide +kernel
theorem dX9_pointsTotal_7 : decode cX9_pointsTotal 7 = .ok (.iaload, 1) := by decide +kernel
theorem dX9_pointsTotal_8 : decode cX9_pointsTotal 8 = .ok (.aload_n 0, 1) := by decide +kernel
theorem dX9_pointsTotal_9 : decode cX9_pointsTotal 9 = .ok (.getfield 7, 3) := by decide +kernel
theorem dX9_pointsTotal_12 : decode cX9_pointsTotal 12 = .ok (.bipush 43, 2) := by decide +kernel
theorem dX9_pointsTotal_14 : decode cX9_pointsTotal 14 = .ok (.iaload, 1) := by decide +kernel
theorem dX9_pointsTotal_15 : decode cX9_pointsTotal 15 = .ok (.iadd, 1) := by decide +kernel
theorem dX9_pointsTotal_16 : decode cX9_pointsTotal 16 = .ok (.aload_n 0, 1) := by decide +kernel
theorem dX9_pointsTotal_17 : decode cX9_pointsTotal 17 = .ok (.getfield 7, 3) := by decide +kernel
theorem dX9_pointsTotal_20 : decode cX9_pointsTotal 20 = .ok (.bipush 44, 2) := by decide +kernel
theorem dX9_pointsTotal_22 : decode cX9_pointsTotal 22 = .ok (.iaload, 1) := by decide +kernel
theorem dX9_pointsTotal_23 : decode cX9_pointsTotal 23 = .ok (.iadd, 1) := by decide +kernel
theorem dX9_pointsTotal_24 : decode cX9_pointsTotal 24 = .ok (.aload_n 0, 1) := by decide +kernel
theorem dX9_pointsTotal_25 : decode cX9_pointsTotal 25 = .ok (.getfield 7, 3) := by decide +kernel
theorem dX9_pointsTotal_28 : decode cX9_pointsTotal 28 = .ok (.bipush 45, 2) := by decide +kernel
theorem dX9_pointsTotal_30 : decode cX9_pointsTotal 30 = .ok (.iaload, 1) := by decide +kernel
theorem dX9_pointsTotal_31 : decode cX9_pointsTotal 31 = .ok (.iadd, 1) := by decide +kernel
theorem dX9_pointsTotal_32 : decode cX9_pointsTotal 32 = .ok (.invokevirtual 165, 3) := by decide +kernel
theorem dX9_pointsTotal_35 : decode cX9_pointsTotal 35 = .ok (.ireturn, 1) := by decide +kernel
theorem dX9_pointsOf_0 : decode cX9_pointsOf 0 = .ok (.aload_n 0, 1) := by decide +kernel
theorem dX9_pointsOf_1 : decode cX9_pointsOf 1 = .ok (.iconst 0, 1) := by decide +kernel
theorem dX9_pointsOf_2 : decode cX9_pointsOf 2 = .ok (.putfield 25, 3) := by decide +kernel
theorem dX9_pointsOf_5 : decode cX9_pointsOf 5 = .ok (.iload_n 1, 1) := by decide +kernel
theorem dX9_pointsOf_6 : decode cX9_pointsOf 6 = .ok (.lookupswitch 74 #[(98, 50), (108, 42), (116, 58), (117, 66)], 42) := by decide +kernel
theorem dX9_pointsOf_48 : decode cX9_pointsOf 48 = .ok (.aload_n 0, 1) := by decide +kernel
theorem dX9_pointsOf_49 : decode cX9_pointsOf 49 = .ok (.getfield 7, 3) := by decide +kernel
theorem dX9_pointsOf_52 : decode cX9_pointsOf 52 = .ok (.bipush 42, 2) := by decide +kernel
theorem dX9_pointsOf_54 : decode cX9_pointsOf 54 = .ok (.iaload, 1) := by decide +kernel
theorem dX9_pointsOf_55 : decode cX9_pointsOf 55 = .ok (.ireturn, 1) := by decide +kernel
theorem dX9_pointsOf_56 : decode cX9_pointsOf 56 = .ok (.aload_n 0, 1) := by decide +kernel
theorem dX9_pointsOf_57 : decode cX9_pointsOf 57 = .ok (.getfield 7, 3) := by decide +kernel
theorem dX9_pointsOf_60 : decode cX9_pointsOf 60 = .ok (.bipush 43, 2) := by decide +kernel
theorem dX9_pointsOf_62 : decode cX9_pointsOf 62 = .ok (.iaload, 1) := by decide +kernel
theorem dX9_pointsOf_63 : decode cX9_pointsOf 63 = .ok (.ireturn, 1) := by decide +kernel
theorem dX9_pointsOf_64 : decode cX9_pointsOf 64 = .ok (.aload_n 0, 1) := by decide +kernel
theorem dX9_pointsOf_65 : decode cX9_pointsOf 65 = .ok (.getfield 7, 3) := by decide +kernel
theorem dX9_pointsOf_68 : decode cX9_pointsOf 68 = .ok (.bipush 44, 2) := by decide +kernel
theorem dX9_pointsOf_70 : decode cX9_pointsOf 70 = .ok (.iaload, 1) := by decide +kernel
theorem dX9_pointsOf_71 : decode cX9_pointsOf 71 = .ok (.ireturn, 1) := by decide +kernel
theorem dX9_pointsOf_72 : decode cX9_pointsOf 72 = .ok (.aload_n 0, 1) := by decide +kernel
theorem dX9_pointsOf_73 : decode cX9_pointsOf 73 = .ok (.getfield 7, 3) := by decide +kernel
theorem dX9_pointsOf_76 : decode cX9_pointsOf 76 = .ok (.bipush 45, 2) := by decide +kernel
theorem dX9_pointsOf_78 : decode cX9_pointsOf 78 = .ok (.iaload, 1) := by decide +kernel
theorem dX9_pointsOf_79 : decode cX9_pointsOf 79 = .ok (.ireturn, 1) := by decide +kernel
theorem dX9_pointsOf_80 : decode cX9_pointsOf 80 = .ok (.aload_n 0, 1) := by decide +kernel
theorem dX9_pointsOf_81 : decode cX9_pointsOf 81 = .ok (.iconst 1, 1) := by decide +kernel
theorem dX9_pointsOf_82 : decode cX9_pointsOf 82 = .ok (.invokevirtual 87, 3) := by decide +kernel
theorem dX9_pointsOf_85 : decode cX9_pointsOf 85 = .ok (.ireturn, 1) := by decide +kernel
theorem dX9_drainedBalls_0 : decode cX9_drainedBalls 0 = .ok (.aload_n 0, 1) := by decide +kernel
theorem dX9_drainedBalls_1 : decode cX9_drainedBalls 1 = .ok (.aload_n 0, 1) := by decide +kernel
theorem dX9_drainedBalls_2 : decode cX9_drainedBalls 2 = .ok (.getfield 7, 3) := by decide +kernel
theorem dX9_drainedBalls_5 : decode cX9_drainedBalls 5 = .ok (.bipush 14, 2) := by decide +kernel
theorem dX9_drainedBalls_7 : decode cX9_drainedBalls 7 = .ok (.iaload, 1) := by decide +kernel
theorem dX9_drainedBalls_8 : decode cX9_drainedBalls 8 = .ok (.invokevirtual 165, 3) := by decide +kernel
theorem dX9_drainedBalls_11 : decode cX9_drainedBalls 11 = .ok (.ireturn, 1) := by decide +kernel
theorem dX9_tiltedBalls_0 : decode cX9_tiltedBalls 0 = .ok (.aload_n 0, 1) := by decide +kernel
theorem dX9_tiltedBalls_1 : decode cX9_tiltedBalls 1 = .ok (.aload_n 0, 1) := by decide +kernel
theorem dX9_tiltedBalls_2 : decode cX9_tiltedBalls 2 = .ok (.getfield 7, 3) := by decide +kernel
theorem dX9_tiltedBalls_5 : decode cX9_tiltedBalls 5 = .ok (.bipush 15, 2) := by decide +kernel
theorem dX9_tiltedBalls_7 : decode cX9_tiltedBalls 7 = .ok (.iaload, 1) := by decide +kernel
theorem dX9_tiltedBalls_8 : decode cX9_tiltedBalls 8 = .ok (.invokevirtual 165, 3) := by decide +kernel
theorem dX9_tiltedBalls_11 : decode cX9_tiltedBalls 11 = .ok (.ireturn, 1) := by decide +kernel
theorem dX9_meanScore_0 : decode cX9_meanScore 0 = .ok (.aload_n 0, 1) := by decide +kernel
theorem dX9_meanScore_1 : decode cX9_meanScore 1 = .ok (.getfield 7, 3) := by decide +kernel
theorem dX9_meanScore_4 : decode cX9_meanScore 4 = .ok (.iconst 2, 1) := by decide +kernel
theorem dX9_meanScore_5 : decode cX9_meanScore 5 = .ok (.iaload, 1) := by decide +kernel
theorem dX9_meanScore_6 : decode cX9_meanScore 6 = .ok (.istore_n 1, 1) := by decide +kernel
theorem dX9_meanScore_7 : decode cX9_meanScore 7 = .ok (.aload_n 0, 1) := by decide +kernel
theorem dX9_meanScore_8 : decode cX9_meanScore 8 = .ok (.iload_n 1, 1) := by decide +kernel
theorem dX9_meanScore_9 : decode cX9_meanScore 9 = .ok (.ifCond .ne 7, 3) := by decide +kernel
theorem dX9_meanScore_12 : decode cX9_meanScore 12 = .ok (.iconst 1, 1) := by decide +kernel
theorem dX9_meanScore_13 : decode cX9_meanScore 13 = .ok (.goto 4, 3) := by decide +kernel
theorem dX9_meanScore_16 : decode cX9_meanScore 16 = .ok (.iconst 0, 1) := by decide +kernel
theorem dX9_meanScore_17 : decode cX9_meanScore 17 = .ok (.putfield 25, 3) := by decide +kernel
theorem dX9_meanScore_20 : decode cX9_meanScore 20 = .ok (.iconst 0, 1) := by decide +kernel
theorem dX9_meanScore_21 : decode cX9_meanScore 21 = .ok (.istore_n 2, 1) := by decide +kernel
theorem dX9_meanScore_22 : decode cX9_meanScore 22 = .ok (.iconst 0, 1) := by decide +kernel
theorem dX9_meanScore_23 : decode cX9_meanScore 23 = .ok (.istore_n 3, 1) := by decide +kernel
theorem dX9_meanScore_24 : decode cX9_meanScore 24 = .ok (.iload_n 3, 1) := by decide +kernel
theorem dX9_meanScore_25 : decode cX9_meanScore 25 = .ok (.iload_n 1, 1) := by decide +kernel
theorem dX9_meanScore_26 : decode cX9_meanScore 26 = .ok (.if_icmp .ge 21, 3) := by decide +kernel
theorem dX9_meanScore_29 : decode cX9_meanScore 29 = .ok (.iload_n 2, 1) := by decide +kernel
theorem dX9_meanScore_30 : decode cX9_meanScore 30 = .ok (.aload_n 0, 1) := by decide +kernel
theorem dX9_meanScore_31 : decode cX9_meanScore 31 = .ok (.getfield 7, 3) := by decide +kernel
theorem dX9_meanScore_34 : decode cX9_meanScore 34 = .ok (.bipush 30, 2) := by decide +kernel
theorem dX9_meanScore_36 : decode cX9_meanScore 36 = .ok (.iload_n 3, 1) := by decide +kernel
theorem dX9_meanScore_37 : decode cX9_meanScore 37 = .ok (.iadd, 1) := by decide +kernel
theorem dX9_meanScore_38 : decode cX9_meanScore 38 = .ok (.iaload, 1) := by decide +kernel
theorem dX9_meanScore_39 : decode cX9_meanScore 39 = .ok (.iadd, 1) := by decide +kernel
theorem dX9_meanScore_40 : decode cX9_meanScore 40 = .ok (.istore_n 2, 1) := by decide +kernel
theorem dX9_meanScore_41 : decode cX9_meanScore 41 = .ok (.iinc 3 1, 3) := by decide +kernel
theorem dX9_meanScore_44 : decode cX9_meanScore 44 = .ok (.goto (-20), 3) := by decide +kernel
theorem dX9_meanScore_47 : decode cX9_meanScore 47 = .ok (.iload_n 1, 1) := by decide +kernel
theorem dX9_meanScore_48 : decode cX9_meanScore 48 = .ok (.ifCond .ne 7, 3) := by decide +kernel
theorem dX9_meanScore_51 : decode cX9_meanScore 51 = .ok (.dconst 0, 1) := by decide +kernel
theorem dX9_meanScore_52 : decode cX9_meanScore 52 = .ok (.goto 8, 3) := by decide +kernel
theorem dX9_meanScore_55 : decode cX9_meanScore 55 = .ok (.iload_n 2, 1) := by decide +kernel
theorem dX9_meanScore_56 : decode cX9_meanScore 56 = .ok (.i2d, 1) := by decide +kernel
theorem dX9_meanScore_57 : decode cX9_meanScore 57 = .ok (.iload_n 1, 1) := by decide +kernel
theorem dX9_meanScore_58 : decode cX9_meanScore 58 = .ok (.i2d, 1) := by decide +kernel
theorem dX9_meanScore_59 : decode cX9_meanScore 59 = .ok (.ddiv, 1) := by decide +kernel
theorem dX9_meanScore_60 : decode cX9_meanScore 60 = .ok (.dreturn, 1) := by decide +kernel
theorem dX9_tiltRate_0 : decode cX9_tiltRate 0 = .ok (.aload_n 0, 1) := by decide +kernel
theorem dX9_tiltRate_1 : decode cX9_tiltRate 1 = .ok (.aload_n 0, 1) := by decide +kernel
theorem dX9_tiltRate_2 : decode cX9_tiltRate 2 = .ok (.getfield 7, 3) := by decide +kernel
theorem dX9_tiltRate_5 : decode cX9_tiltRate 5 = .ok (.bipush 14, 2) := by decide +kernel
theorem dX9_tiltRate_7 : decode cX9_tiltRate 7 = .ok (.iaload, 1) := by decide +kernel
theorem dX9_tiltRate_8 : decode cX9_tiltRate 8 = .ok (.ifCond .ne 7, 3) := by decide +kernel
theorem dX9_tiltRate_11 : decode cX9_tiltRate 11 = .ok (.iconst 1, 1) := by decide +kernel
theorem dX9_tiltRate_12 : decode cX9_tiltRate 12 = .ok (.goto 4, 3) := by decide +kernel
theorem dX9_tiltRate_15 : decode cX9_tiltRate 15 = .ok (.iconst 0, 1) := by decide +kernel
theorem dX9_tiltRate_16 : decode cX9_tiltRate 16 = .ok (.putfield 25, 3) := by decide +kernel
theorem dX9_tiltRate_19 : decode cX9_tiltRate 19 = .ok (.aload_n 0, 1) := by decide +kernel
theorem dX9_tiltRate_20 : decode cX9_tiltRate 20 = .ok (.getfield 25, 3) := by decide +kernel
theorem dX9_tiltRate_23 : decode cX9_tiltRate 23 = .ok (.ifCond .le 7, 3) := by decide +kernel
theorem dX9_tiltRate_26 : decode cX9_tiltRate 26 = .ok (.fconst 0, 1) := by decide +kernel
theorem dX9_tiltRate_27 : decode cX9_tiltRate 27 = .ok (.goto 20, 3) := by decide +kernel
theorem dX9_tiltRate_30 : decode cX9_tiltRate 30 = .ok (.aload_n 0, 1) := by decide +kernel
theorem dX9_tiltRate_31 : decode cX9_tiltRate 31 = .ok (.getfield 7, 3) := by decide +kernel
theorem dX9_tiltRate_34 : decode cX9_tiltRate 34 = .ok (.bipush 15, 2) := by decide +kernel
theorem dX9_tiltRate_36 : decode cX9_tiltRate 36 = .ok (.iaload, 1) := by decide +kernel
theorem dX9_tiltRate_37 : decode cX9_tiltRate 37 = .ok (.i2f, 1) := by decide +kernel
theorem dX9_tiltRate_38 : decode cX9_tiltRate 38 = .ok (.aload_n 0, 1) := by decide +kernel
theorem dX9_tiltRate_39 : decode cX9_tiltRate 39 = .ok (.getfield 7, 3) := by decide +kernel
theorem dX9_tiltRate_42 : decode cX9_tiltRate 42 = .ok (.bipush 14, 2) := by decide +kernel
theorem dX9_tiltRate_44 : decode cX9_tiltRate 44 = .ok (.iaload, 1) := by decide +kernel
theorem dX9_tiltRate_45 : decode cX9_tiltRate 45 = .ok (.i2f, 1) := by decide +kernel
theorem dX9_tiltRate_46 : decode cX9_tiltRate 46 = .ok (.fdiv, 1) := by decide +kernel
theorem dX9_tiltRate_47 : decode cX9_tiltRate 47 = .ok (.freturn, 1) := by decide +kernel
theorem dX9_isConsistent_0 : decode cX9_isConsistent 0 = .ok (.aload_n 0, 1) := by decide +kernel
theorem dX9_isConsistent_1 : decode cX9_isConsistent 1 = .ok (.iconst 1, 1) := by decide +kernel
theorem dX9_isConsistent_2 : decode cX9_isConsistent 2 = .ok (.invokevirtual 165, 3) := by decide +kernel
theorem dX9_isConsistent_5 : decode cX9_isConsistent 5 = .ok (.iconst 1, 1) := by decide +kernel
theorem dX9_isConsistent_6 : decode cX9_isConsistent 6 = .ok (.if_icmp .ne 7, 3) := by decide +kernel
theorem dX9_isConsistent_9 : decode cX9_isConsistent 9 = .ok (.iconst 1, 1) := by decide +kernel
theorem dX9_isConsistent_10 : decode cX9_isConsistent 10 = .ok (.goto 4, 3) := by decide +kernel
theorem dX9_isConsistent_13 : decode cX9_isConsistent 13 = .ok (.iconst 0, 1) := by decide +kernel
theorem dX9_isConsistent_14 : decode cX9_isConsistent 14 = .ok (.ireturn, 1) := by decide +kernel
theorem dX9_write_0 : decode cX9_write 0 = .ok (.aload_n 0, 1) := by decide +kernel
theorem dX9_write_1 : decode cX9_write 1 = .ok (.getfield 42, 3) := by decide +kernel
theorem dX9_write_4 : decode cX9_write 4 = .ok (.aload_n 0, 1) := by decide +kernel
theorem dX9_write_5 : decode cX9_write 5 = .ok (.getfield 45, 3) := by decide +kernel
theorem dX9_write_8 : decode cX9_write 8 = .ok (.iload_n 1, 1) := by decide +kernel
theorem dX9_write_9 : decode cX9_write 9 = .ok (.iastore, 1) := by decide +kernel
theorem dX9_write_10 : decode cX9_write 10 = .ok (.aload_n 0, 1) := by decide +kernel
theorem dX9_write_11 : decode cX9_write 11 = .ok (.dup, 1) := by decide +kernel
theorem dX9_write_12 : decode cX9_write 12 = .ok (.getfield 45, 3) := by decide +kernel
theorem dX9_write_15 : decode cX9_write 15 = .ok (.iconst 1, 1) := by decide +kernel
theorem dX9_write_16 : decode cX9_write 16 = .ok (.iadd, 1) := by decide +kernel
theorem dX9_write_17 : decode cX9_write 17 = .ok (.putfield 45, 3) := by decide +kernel
theorem dX9_write_20 : decode cX9_write 20 = .ok (.return_, 1) := by decide +kernel
theorem dX9_writeNumber_0 : decode cX9_writeNumber 0 = .ok (.iconst 1, 1) := by decide +kernel
theorem dX9_writeNumber_1 : decode cX9_writeNumber 1 = .ok (.istore_n 2, 1) := by decide +kernel
theorem dX9_writeNumber_2 : decode cX9_writeNumber 2 = .ok (.iload_n 1, 1) := by decide +kernel
theorem dX9_writeNumber_3 : decode cX9_writeNumber 3 = .ok (.iload_n 2, 1) := by decide +kernel
theorem dX9_writeNumber_4 : decode cX9_writeNumber 4 = .ok (.idiv, 1) := by decide +kernel
theorem dX9_writeNumber_5 : decode cX9_writeNumber 5 = .ok (.bipush 9, 2) := by decide +kernel
theorem dX9_writeNumber_7 : decode cX9_writeNumber 7 = .ok (.if_icmp .le 11, 3) := by decide +kernel
theorem dX9_writeNumber_10 : decode cX9_writeNumber 10 = .ok (.iload_n 2, 1) := by decide +kernel
theorem dX9_writeNumber_11 : decode cX9_writeNumber 11 = .ok (.bipush 10, 2) := by decide +kernel
theorem dX9_writeNumber_13 : decode cX9_writeNumber 13 = .ok (.imul, 1) := by decide +kernel
theorem dX9_writeNumber_14 : decode cX9_writeNumber 14 = .ok (.istore_n 2, 1) := by decide +kernel
theorem dX9_writeNumber_15 : decode cX9_writeNumber 15 = .ok (.goto (-13), 3) := by decide +kernel
theorem dX9_writeNumber_18 : decode cX9_writeNumber 18 = .ok (.iload_n 2, 1) := by decide +kernel
theorem dX9_writeNumber_19 : decode cX9_writeNumber 19 = .ok (.ifCond .le 24, 3) := by decide +kernel
theorem dX9_writeNumber_22 : decode cX9_writeNumber 22 = .ok (.aload_n 0, 1) := by decide +kernel
theorem dX9_writeNumber_23 : decode cX9_writeNumber 23 = .ok (.bipush 48, 2) := by decide +kernel
theorem dX9_writeNumber_25 : decode cX9_writeNumber 25 = .ok (.iload_n 1, 1) := by decide +kernel
theorem dX9_writeNumber_26 : decode cX9_writeNumber 26 = .ok (.iload_n 2, 1) := by decide +kernel
theorem dX9_writeNumber_27 : decode cX9_writeNumber 27 = .ok (.idiv, 1) := by decide +kernel
theorem dX9_writeNumber_28 : decode cX9_writeNumber 28 = .ok (.bipush 10, 2) := by decide +kernel
theorem dX9_writeNumber_30 : decode cX9_writeNumber 30 = .ok (.irem, 1) := by decide +kernel
theorem dX9_writeNumber_31 : decode cX9_writeNumber 31 = .ok (.iadd, 1) := by decide +kernel
theorem dX9_writeNumber_32 : decode cX9_writeNumber 32 = .ok (.invokevirtual 190, 3) := by decide +kernel
theorem dX9_writeNumber_35 : decode cX9_writeNumber 35 = .ok (.iload_n 2, 1) := by decide +kernel
theorem dX9_writeNumber_36 : decode cX9_writeNumber 36 = .ok (.bipush 10, 2) := by decide +kernel
theorem dX9_writeNumber_38 : decode cX9_writeNumber 38 = .ok (.idiv, 1) := by decide +kernel
theorem dX9_writeNumber_39 : decode cX9_writeNumber 39 = .ok (.istore_n 2, 1) := by decide +kernel
theorem dX9_writeNumber_40 : decode cX9_writeNumber 40 = .ok (.goto (-22), 3) := by decide +kernel
theorem dX9_writeNumber_43 : decode cX9_writeNumber 43 = .ok (.return_, 1) := by decide +kernel
theorem dX9_renderBall_0 : decode cX9_renderBall 0 = .ok (.aload_n 0, 1) := by decide +kernel
theorem dX9_renderBall_1 : decode cX9_renderBall 1 = .ok (.aload_n 0, 1) := by decide +kernel
theorem dX9_renderBall_2 : decode cX9_renderBall 2 = .ok (.invokevirtual 76, 3) := by decide +kernel
theorem dX9_renderBall_5 : decode cX9_renderBall 5 = .ok (.ifCond .eq 7, 3) := by decide +kernel
theorem dX9_renderBall_8 : decode cX9_renderBall 8 = .ok (.iconst 0, 1) := by decide +kernel
theorem dX9_renderBall_9 : decode cX9_renderBall 9 = .ok (.goto 4, 3) := by decide +kernel
theorem dX9_renderBall_12 : decode cX9_renderBall 12 = .ok (.iconst 1, 1) := by decide +kernel
theorem dX9_renderBall_13 : decode cX9_renderBall 13 = .ok (.putfield 25, 3) := by decide +kernel
theorem dX9_renderBall_16 : decode cX9_renderBall 16 = .ok (.aload_n 0, 1) := by decide +kernel
theorem dX9_renderBall_17 : decode cX9_renderBall 17 = .ok (.getfield 25, 3) := by decide +kernel
theorem dX9_renderBall_20 : decode cX9_renderBall 20 = .ok (.ifCond .le 5, 3) := by decide +kernel
theorem dX9_renderBall_23 : decode cX9_renderBall 23 = .ok (.iconst 0, 1) := by decide +kernel
theorem dX9_renderBall_24 : decode cX9_renderBall 24 = .ok (.ireturn, 1) := by decide +kernel
theorem dX9_renderBall_25 : decode cX9_renderBall 25 = .ok (.aload_n 0, 1) := by decide +kernel
theorem dX9_renderBall_26 : decode cX9_renderBall 26 = .ok (.iconst 0, 1) := by decide +kernel
theorem dX9_renderBall_27 : decode cX9_renderBall 27 = .ok (.putfield 45, 3) := by decide +kernel
theorem dX9_renderBall_30 : decode cX9_renderBall 30 = .ok (.aload_n 0, 1) := by decide +kernel
theorem dX9_renderBall_31 : decode cX9_renderBall 31 = .ok (.bipush 120, 2) := by decide +kernel
theorem dX9_renderBall_33 : decode cX9_renderBall 33 = .ok (.invokevirtual 190, 3) := by decide +kernel
theorem dX9_renderBall_36 : decode cX9_renderBall 36 = .ok (.aload_n 0, 1) := by decide +kernel
theorem dX9_renderBall_37 : decode cX9_renderBall 37 = .ok (.aload_n 0, 1) := by decide +kernel
theorem dX9_renderBall_38 : decode cX9_renderBall 38 = .ok (.getfield 7, 3) := by decide +kernel
theorem dX9_renderBall_41 : decode cX9_renderBall 41 = .ok (.iconst 5, 1) := by decide +kernel
theorem dX9_renderBall_42 : decode cX9_renderBall 42 = .ok (.iaload, 1) := by decide +kernel
theorem dX9_renderBall_43 : decode cX9_renderBall 43 = .ok (.invokevirtual 193, 3) := by decide +kernel
theorem dX9_renderBall_46 : decode cX9_renderBall 46 = .ok (.aload_n 0, 1) := by decide +kernel
theorem dX9_renderBall_47 : decode cX9_renderBall 47 = .ok (.bipush 32, 2) := by decide +kernel
theorem dX9_renderBall_49 : decode cX9_renderBall 49 = .ok (.invokevirtual 190, 3) := by decide +kernel
theorem dX9_renderBall_52 : decode cX9_renderBall 52 = .ok (.iconst 0, 1) := by decide +kernel
theorem dX9_renderBall_53 : decode cX9_renderBall 53 = .ok (.istore_n 1, 1) := by decide +kernel
theorem dX9_renderBall_54 : decode cX9_renderBall 54 = .ok (.iload_n 1, 1) := by decide +kernel
theorem dX9_renderBall_55 : decode cX9_renderBall 55 = .ok (.iconst 4, 1) := by decide +kernel
theorem dX9_renderBall_56 : decode cX9_renderBall 56 = .ok (.if_icmp .ge 33, 3) := by decide +kernel
theorem dX9_renderBall_59 : decode cX9_renderBall 59 = .ok (.aload_n 0, 1) := by decide +kernel
theorem dX9_renderBall_60 : decode cX9_renderBall 60 = .ok (.aload_n 0, 1) := by decide +kernel
theorem dX9_renderBall_61 : decode cX9_renderBall 61 = .ok (.getfield 7, 3) := by decide +kernel
theorem dX9_renderBall_64 : decode cX9_renderBall 64 = .ok (.bipush 16, 2) := by decide +kernel
theorem dX9_renderBall_66 : decode cX9_renderBall 66 = .ok (.iload_n 1, 1) := by decide +kernel
theorem dX9_renderBall_67 : decode cX9_renderBall 67 = .ok (.iadd, 1) := by decide +kernel
theorem dX9_renderBall_68 : decode cX9_renderBall 68 = .ok (.iaload, 1) := by decide +kernel
theorem dX9_renderBall_69 : decode cX9_renderBall 69 = .ok (.iconst 1, 1) := by decide +kernel
theorem dX9_renderBall_70 : decode cX9_renderBall 70 = .ok (.if_icmp .ne 8, 3) := by decide +kernel
theorem dX9_renderBall_73 : decode cX9_renderBall 73 = .ok (.bipush 42, 2) := by decide +kernel
theorem dX9_renderBall_75 : decode cX9_renderBall 75 = .ok (.goto 5, 3) := by decide +kernel
theorem dX9_renderBall_78 : decode cX9_renderBall 78 = .ok (.bipush 46, 2) := by decide +kernel
theorem dX9_renderBall_80 : decode cX9_renderBall 80 = .ok (.invokevirtual 190, 3) := by decide +kernel
theorem dX9_renderBall_83 : decode cX9_renderBall 83 = .ok (.iinc 1 1, 3) := by decide +kernel
theorem dX9_renderBall_86 : decode cX9_renderBall 86 = .ok (.goto (-32), 3) := by decide +kernel
theorem dX9_renderBall_89 : decode cX9_renderBall 89 = .ok (.aload_n 0, 1) := by decide +kernel
theorem dX9_renderBall_90 : decode cX9_renderBall 90 = .ok (.bipush 32, 2) := by decide +kernel
theorem dX9_renderBall_92 : decode cX9_renderBall 92 = .ok (.invokevirtual 190, 3) := by decide +kernel
theorem dX9_renderBall_95 : decode cX9_renderBall 95 = .ok (.iconst 0, 1) := by decide +kernel
theorem dX9_renderBall_96 : decode cX9_renderBall 96 = .ok (.istore_n 1, 1) := by decide +kernel
theorem dX9_renderBall_97 : decode cX9_renderBall 97 = .ok (.iload_n 1, 1) := by decide +kernel
theorem dX9_renderBall_98 : decode cX9_renderBall 98 = .ok (.iconst 5, 1) := by decide +kernel
theorem dX9_renderBall_99 : decode cX9_renderBall 99 = .ok (.if_icmp .ge 33, 3) := by decide +kernel
theorem dX9_renderBall_102 : decode cX9_renderBall 102 = .ok (.aload_n 0, 1) := by decide +kernel
theorem dX9_renderBall_103 : decode cX9_renderBall 103 = .ok (.aload_n 0, 1) := by decide +kernel
theorem dX9_renderBall_104 : decode cX9_renderBall 104 = .ok (.getfield 7, 3) := by decide +kernel
theorem dX9_renderBall_107 : decode cX9_renderBall 107 = .ok (.bipush 24, 2) := by decide +kernel
theorem dX9_renderBall_109 : decode cX9_renderBall 109 = .ok (.iload_n 1, 1) := by decide +kernel
theorem dX9_renderBall_110 : decode cX9_renderBall 110 = .ok (.iadd, 1) := by decide +kernel
theorem dX9_renderBall_111 : decode cX9_renderBall 111 = .ok (.iaload, 1) := by decide +kernel
theorem dX9_renderBall_112 : decode cX9_renderBall 112 = .ok (.iconst 1, 1) := by decide +kernel
theorem dX9_renderBall_113 : decode cX9_renderBall 113 = .ok (.if_icmp .ne 8, 3) := by decide +kernel
theorem dX9_renderBall_116 : decode cX9_renderBall 116 = .ok (.bipush 95, 2) := by decide +kernel
theorem dX9_renderBall_118 : decode cX9_renderBall 118 = .ok (.goto 5, 3) := by decide +kernel
theorem dX9_renderBall_121 : decode cX9_renderBall 121 = .ok (.bipush 124, 2) := by decide +kernel
theorem dX9_renderBall_123 : decode cX9_renderBall 123 = .ok (.invokevirtual 190, 3) := by decide +kernel
theorem dX9_renderBall_126 : decode cX9_renderBall 126 = .ok (.iinc 1 1, 3) := by decide +kernel
theorem dX9_renderBall_129 : decode cX9_renderBall 129 = .ok (.goto (-32), 3) := by decide +kernel
theorem dX9_renderBall_132 : decode cX9_renderBall 132 = .ok (.iconst 0, 1) := by decide +kernel
theorem dX9_renderBall_133 : decode cX9_renderBall 133 = .ok (.istore_n 1, 1) := by decide +kernel
theorem dX9_renderBall_134 : decode cX9_renderBall 134 = .ok (.iload_n 1, 1) := by decide +kernel
theorem dX9_renderBall_135 : decode cX9_renderBall 135 = .ok (.aload_n 0, 1) := by decide +kernel
theorem dX9_renderBall_136 : decode cX9_renderBall 136 = .ok (.getfield 7, 3) := by decide +kernel
theorem dX9_renderBall_139 : decode cX9_renderBall 139 = .ok (.bipush 9, 2) := by decide +kernel
theorem dX9_renderBall_141 : decode cX9_renderBall 141 = .ok (.iaload, 1) := by decide +kernel
theorem dX9_renderBall_142 : decode cX9_renderBall 142 = .ok (.if_icmp .ge 15, 3) := by decide +kernel
theorem dX9_renderBall_145 : decode cX9_renderBall 145 = .ok (.aload_n 0, 1) := by decide +kernel
theorem dX9_renderBall_146 : decode cX9_renderBall 146 = .ok (.bipush 33, 2) := by decide +kernel
theorem dX9_renderBall_148 : decode cX9_renderBall 148 = .ok (.invokevirtual 190, 3) := by decide +kernel
theorem dX9_renderBall_151 : decode cX9_renderBall 151 = .ok (.iinc 1 1, 3) := by decide +kernel
theorem dX9_renderBall_154 : decode cX9_renderBall 154 = .ok (.goto (-20), 3) := by decide +kernel
theorem dX9_renderBall_157 : decode cX9_renderBall 157 = .ok (.aload_n 0, 1) := by decide +kernel
theorem dX9_renderBall_158 : decode cX9_renderBall 158 = .ok (.invokevirtual 113, 3) := by decide +kernel
theorem dX9_renderBall_161 : decode cX9_renderBall 161 = .ok (.ifCond .eq 9, 3) := by decide +kernel
theorem dX9_renderBall_164 : decode cX9_renderBall 164 = .ok (.aload_n 0, 1) := by decide +kernel
theorem dX9_renderBall_165 : decode cX9_renderBall 165 = .ok (.bipush 84, 2) := by decide +kernel
theorem dX9_renderBall_167 : decode cX9_renderBall 167 = .ok (.invokevirtual 190, 3) := by decide +kernel
theorem dX9_renderBall_170 : decode cX9_renderBall 170 = .ok (.aload_n 0, 1) := by decide +kernel
theorem dX9_renderBall_171 : decode cX9_renderBall 171 = .ok (.getfield 45, 3) := by decide +kernel
theorem dX9_renderBall_174 : decode cX9_renderBall 174 = .ok (.ireturn, 1) := by decide +kernel
theorem dX9_renderRecords_0 : decode cX9_renderRecords 0 = .ok (.aload_n 0, 1) := by decide +kernel
theorem dX9_renderRecords_1 : decode cX9_renderRecords 1 = .ok (.iconst 0, 1) := by decide +kernel
theorem dX9_renderRecords_2 : decode cX9_renderRecords 2 = .ok (.putfield 25, 3) := by decide +kernel
theorem dX9_renderRecords_5 : decode cX9_renderRecords 5 = .ok (.aload_n 0, 1) := by decide +kernel
theorem dX9_renderRecords_6 : decode cX9_renderRecords 6 = .ok (.iconst 0, 1) := by decide +kernel
theorem dX9_renderRecords_7 : decode cX9_renderRecords 7 = .ok (.putfield 45, 3) := by decide +kernel
theorem dX9_renderRecords_10 : decode cX9_renderRecords 10 = .ok (.iconst 0, 1) := by decide +kernel
theorem dX9_renderRecords_11 : decode cX9_renderRecords 11 = .ok (.istore_n 1, 1) := by decide +kernel
theorem dX9_renderRecords_12 : decode cX9_renderRecords 12 = .ok (.iload_n 1, 1) := by decide +kernel
theorem dX9_renderRecords_13 : decode cX9_renderRecords 13 = .ok (.aload_n 0, 1) := by decide +kernel
theorem dX9_renderRecords_14 : decode cX9_renderRecords 14 = .ok (.getfield 7, 3) := by decide +kernel
theorem dX9_renderRecords_17 : decode cX9_renderRecords 17 = .ok (.bipush 13, 2) := by decide +kernel
theorem dX9_renderRecords_19 : decode cX9_renderRecords 19 = .ok (.iaload, 1) := by decide +kernel
theorem dX9_renderRecords_20 : decode cX9_renderRecords 20 = .ok (.if_icmp .ge 80, 3) := by decide +kernel
theorem dX9_renderRecords_23 : decode cX9_renderRecords 23 = .ok (.iload_n 1, 1) := by decide +kernel
theorem dX9_renderRecords_24 : decode cX9_renderRecords 24 = .ok (.ifCond .le 9, 3) := by decide +kernel
theorem dX9_renderRecords_27 : decode cX9_renderRecords 27 = .ok (.aload_n 0, 1) := by decide +kernel
theorem dX9_renderRecords_28 : decode cX9_renderRecords 28 = .ok (.bipush 44, 2) := by decide +kernel
theorem dX9_renderRecords_30 : decode cX9_renderRecords 30 = .ok (.invokevirtual 190, 3) := by decide +kernel
theorem dX9_renderRecords_33 : decode cX9_renderRecords 33 = .ok (.aload_n 0, 1) := by decide +kernel
theorem dX9_renderRecords_34 : decode cX9_renderRecords 34 = .ok (.aload_n 0, 1) := by decide +kernel
theorem dX9_renderRecords_35 : decode cX9_renderRecords 35 = .ok (.getfield 7, 3) := by decide +kernel
theorem dX9_renderRecords_38 : decode cX9_renderRecords 38 = .ok (.bipush 46, 2) := by decide +kernel
theorem dX9_renderRecords_40 : decode cX9_renderRecords 40 = .ok (.iconst 3, 1) := by decide +kernel
theorem dX9_renderRecords_41 : decode cX9_renderRecords 41 = .ok (.iload_n 1, 1) := by decide +kernel
theorem dX9_renderRecords_42 : decode cX9_renderRecords 42 = .ok (.imul, 1) := by decide +kernel
theorem dX9_renderRecords_43 : decode cX9_renderRecords 43 = .ok (.iadd, 1) := by decide +kernel
theorem dX9_renderRecords_44 : decode cX9_renderRecords 44 = .ok (.iaload, 1) := by decide +kernel
theorem dX9_renderRecords_45 : decode cX9_renderRecords 45 = .ok (.invokevirtual 193, 3) := by decide +kernel
theorem dX9_renderRecords_48 : decode cX9_renderRecords 48 = .ok (.aload_n 0, 1) := by decide +kernel
theorem dX9_renderRecords_49 : decode cX9_renderRecords 49 = .ok (.bipush 64, 2) := by decide +kernel
theorem dX9_renderRecords_51 : decode cX9_renderRecords 51 = .ok (.invokevirtual 190, 3) := by decide +kernel
theorem dX9_renderRecords_54 : decode cX9_renderRecords 54 = .ok (.aload_n 0, 1) := by decide +kernel
theorem dX9_renderRecords_55 : decode cX9_renderRecords 55 = .ok (.aload_n 0, 1) := by decide +kernel
theorem dX9_renderRecords_56 : decode cX9_renderRecords 56 = .ok (.getfield 7, 3) := by decide +kernel
theorem dX9_renderRecords_59 : decode cX9_renderRecords 59 = .ok (.bipush 46, 2) := by decide +kernel
theorem dX9_renderRecords_61 : decode cX9_renderRecords 61 = .ok (.iconst 3, 1) := by decide +kernel
theorem dX9_renderRecords_62 : decode cX9_renderRecords 62 = .ok (.iload_n 1, 1) := by decide +kernel
theorem dX9_renderRecords_63 : decode cX9_renderRecords 63 = .ok (.imul, 1) := by decide +kernel
theorem dX9_renderRecords_64 : decode cX9_renderRecords 64 = .ok (.iadd, 1) := by decide +kernel
theorem dX9_renderRecords_65 : decode cX9_renderRecords 65 = .ok (.iconst 2, 1) := by decide +kernel
theorem dX9_renderRecords_66 : decode cX9_renderRecords 66 = .ok (.iadd, 1) := by decide +kernel
theorem dX9_renderRecords_67 : decode cX9_renderRecords 67 = .ok (.iaload, 1) := by decide +kernel
theorem dX9_renderRecords_68 : decode cX9_renderRecords 68 = .ok (.invokevirtual 193, 3) := by decide +kernel
theorem dX9_renderRecords_71 : decode cX9_renderRecords 71 = .ok (.aload_n 0, 1) := by decide +kernel
theorem dX9_renderRecords_72 : decode cX9_renderRecords 72 = .ok (.bipush 112, 2) := by decide +kernel
theorem dX9_renderRecords_74 : decode cX9_renderRecords 74 = .ok (.invokevirtual 190, 3) := by decide +kernel
theorem dX9_renderRecords_77 : decode cX9_renderRecords 77 = .ok (.aload_n 0, 1) := by decide +kernel
theorem dX9_renderRecords_78 : decode cX9_renderRecords 78 = .ok (.aload_n 0, 1) := by decide +kernel
theorem dX9_renderRecords_79 : decode cX9_renderRecords 79 = .ok (.getfield 7, 3) := by decide +kernel
theorem dX9_renderRecords_82 : decode cX9_renderRecords 82 = .ok (.bipush 46, 2) := by decide +kernel
theorem dX9_renderRecords_84 : decode cX9_renderRecords 84 = .ok (.iconst 3, 1) := by decide +kernel
theorem dX9_renderRecords_85 : decode cX9_renderRecords 85 = .ok (.iload_n 1, 1) := by decide +kernel
theorem dX9_renderRecords_86 : decode cX9_renderRecords 86 = .ok (.imul, 1) := by decide +kernel
theorem dX9_renderRecords_87 : decode cX9_renderRecords 87 = .ok (.iadd, 1) := by decide +kernel
theorem dX9_renderRecords_88 : decode cX9_renderRecords 88 = .ok (.iconst 1, 1) := by decide +kernel
theorem dX9_renderRecords_89 : decode cX9_renderRecords 89 = .ok (.iadd, 1) := by decide +kernel
theorem dX9_renderRecords_90 : decode cX9_renderRecords 90 = .ok (.iaload, 1) := by decide +kernel
theorem dX9_renderRecords_91 : decode cX9_renderRecords 91 = .ok (.invokevirtual 193, 3) := by decide +kernel
theorem dX9_renderRecords_94 : decode cX9_renderRecords 94 = .ok (.iinc 1 1, 3) := by decide +kernel
theorem dX9_renderRecords_97 : decode cX9_renderRecords 97 = .ok (.goto (-85), 3) := by decide +kernel
theorem dX9_renderRecords_100 : decode cX9_renderRecords 100 = .ok (.aload_n 0, 1) := by decide +kernel
theorem dX9_renderRecords_101 : decode cX9_renderRecords 101 = .ok (.getfield 45, 3) := by decide +kernel
theorem dX9_renderRecords_104 : decode cX9_renderRecords 104 = .ok (.ireturn, 1) := by decide +kernel
theorem dX9_outputAt_0 : decode cX9_outputAt 0 = .ok (.aload_n 0, 1) := by decide +kernel
theorem dX9_outputAt_1 : decode cX9_outputAt 1 = .ok (.iload_n 1, 1) := by decide +kernel
theorem dX9_outputAt_2 : decode cX9_outputAt 2 = .ok (.iconst 0, 1) := by decide +kernel
theorem dX9_outputAt_3 : decode cX9_outputAt 3 = .ok (.aload_n 0, 1) := by decide +kernel
theorem dX9_outputAt_4 : decode cX9_outputAt 4 = .ok (.getfield 45, 3) := by decide +kernel
theorem dX9_outputAt_7 : decode cX9_outputAt 7 = .ok (.iconst 1, 1) := by decide +kernel
theorem dX9_outputAt_8 : decode cX9_outputAt 8 = .ok (.isub, 1) := by decide +kernel
theorem dX9_outputAt_9 : decode cX9_outputAt 9 = .ok (.invokestatic 127, 3) := by decide +kernel
theorem dX9_outputAt_12 : decode cX9_outputAt 12 = .ok (.ifCond .eq 7, 3) := by decide +kernel
theorem dX9_outputAt_15 : decode cX9_outputAt 15 = .ok (.iconst 0, 1) := by decide +kernel
theorem dX9_outputAt_16 : decode cX9_outputAt 16 = .ok (.goto 4, 3) := by decide +kernel
theorem dX9_outputAt_19 : decode cX9_outputAt 19 = .ok (.iconst 1, 1) := by decide +kernel
theorem dX9_outputAt_20 : decode cX9_outputAt 20 = .ok (.putfield 25, 3) := by decide +kernel
theorem dX9_outputAt_23 : decode cX9_outputAt 23 = .ok (.aload_n 0, 1) := by decide +kernel
theorem dX9_outputAt_24 : decode cX9_outputAt 24 = .ok (.getfield 25, 3) := by decide +kernel
theorem dX9_outputAt_27 : decode cX9_outputAt 27 = .ok (.ifCond .le 8, 3) := by decide +kernel
theorem dX9_outputAt_30 : decode cX9_outputAt 30 = .ok (.bipush 32, 2) := by decide +kernel
theorem dX9_outputAt_32 : decode cX9_outputAt 32 = .ok (.goto 10, 3) := by decide +kernel
theorem dX9_outputAt_35 : decode cX9_outputAt 35 = .ok (.aload_n 0, 1) := by decide +kernel
theorem dX9_outputAt_36 : decode cX9_outputAt 36 = .ok (.getfield 42, 3) := by decide +kernel
theorem dX9_outputAt_39 : decode cX9_outputAt 39 = .ok (.iload_n 1, 1) := by decide +kernel
theorem dX9_outputAt_40 : decode cX9_outputAt 40 = .ok (.iaload, 1) := by decide +kernel
theorem dX9_outputAt_41 : decode cX9_outputAt 41 = .ok (.i2c, 1) := by decide +kernel
theorem dX9_outputAt_42 : decode cX9_outputAt 42 = .ok (.ireturn, 1) := by decide +kernel
theorem dX9_type_0 : decode cX9_type 0 = .ok (.aload_n 0, 1) := by decide +kernel
theorem dX9_type_1 : decode cX9_type 1 = .ok (.iload_n 1, 1) := by decide +kernel
theorem dX9_type_2 : decode cX9_type 2 = .ok (.bipush 32, 2) := by decide +kernel
theorem dX9_type_4 : decode cX9_type 4 = .ok (.bipush 126, 2) := by decide +kernel
theorem dX9_type_6 : decode cX9_type 6 = .ok (.invokestatic 127, 3) := by decide +kernel
theorem dX9_type_9 : decode cX9_type 9 = .ok (.ifCond .ne 7, 3) := by decide +kernel
theorem dX9_type_12 : decode cX9_type 12 = .ok (.iconst 1, 1) := by decide +kernel
theorem dX9_type_13 : decode cX9_type 13 = .ok (.goto 17, 3) := by decide +kernel
theorem dX9_type_16 : decode cX9_type 16 = .ok (.aload_n 0, 1) := by decide +kernel
theorem dX9_type_17 : decode cX9_type 17 = .ok (.getfield 57, 3) := by decide +kernel
theorem dX9_type_20 : decode cX9_type 20 = .ok (.bipush 60, 2) := by decide +kernel
theorem dX9_type_22 : decode cX9_type 22 = .ok (.if_icmp .ne 7, 3) := by decide +kernel
theorem dX9_type_25 : decode cX9_type 25 = .ok (.iconst 2, 1) := by decide +kernel
theorem dX9_type_26 : decode cX9_type 26 = .ok (.goto 4, 3) := by decide +kernel
theorem dX9_type_29 : decode cX9_type 29 = .ok (.iconst 0, 1) := by decide +kernel
theorem dX9_type_30 : decode cX9_type 30 = .ok (.putfield 25, 3) := by decide +kernel
theorem dX9_type_33 : decode cX9_type 33 = .ok (.aload_n 0, 1) := by decide +kernel
theorem dX9_type_34 : decode cX9_type 34 = .ok (.getfield 25, 3) := by decide +kernel
theorem dX9_type_37 : decode cX9_type 37 = .ok (.ifCond .le 5, 3) := by decide +kernel
theorem dX9_type_40 : decode cX9_type 40 = .ok (.iconst 0, 1) := by decide +kernel
theorem dX9_type_41 : decode cX9_type 41 = .ok (.ireturn, 1) := by decide +kernel
theorem dX9_type_42 : decode cX9_type 42 = .ok (.aload_n 0, 1) := by decide +kernel
theorem dX9_type_43 : decode cX9_type 43 = .ok (.getfield 48, 3) := by decide +kernel
theorem dX9_type_46 : decode cX9_type 46 = .ok (.aload_n 0, 1) := by decide +kernel
theorem dX9_type_47 : decode cX9_type 47 = .ok (.getfield 57, 3) := by decide +kernel
theorem dX9_type_50 : decode cX9_type 50 = .ok (.iload_n 1, 1) := by decide +kernel
theorem dX9_type_51 : decode cX9_type 51 = .ok (.iastore, 1) := by decide +kernel
theorem dX9_type_52 : decode cX9_type 52 = .ok (.aload_n 0, 1) := by decide +kernel
theorem dX9_type_53 : decode cX9_type 53 = .ok (.dup, 1) := by decide +kernel
theorem dX9_type_54 : decode cX9_type 54 = .ok (.getfield 57, 3) := by decide +kernel
theorem dX9_type_57 : decode cX9_type 57 = .ok (.iconst 1, 1) := by decide +kernel
theorem dX9_type_58 : decode cX9_type 58 = .ok (.iadd, 1) := by decide +kernel
theorem dX9_type_59 : decode cX9_type 59 = .ok (.putfield 57, 3) := by decide +kernel
theorem dX9_type_62 : decode cX9_type 62 = .ok (.aload_n 0, 1) := by decide +kernel
theorem dX9_type_63 : decode cX9_type 63 = .ok (.getfield 57, 3) := by decide +kernel
theorem dX9_type_66 : decode cX9_type 66 = .ok (.ireturn, 1) := by decide +kernel
theorem dX9_mark_0 : decode cX9_mark 0 = .ok (.aload_n 0, 1) := by decide +kernel
theorem dX9_mark_1 : decode cX9_mark 1 = .ok (.getfield 69, 3) := by decide +kernel
theorem dX9_mark_4 : decode cX9_mark 4 = .ok (.ifCond .ne 26, 3) := by decide +kernel
theorem dX9_mark_7 : decode cX9_mark 7 = .ok (.aload_n 0, 1) := by decide +kernel
theorem dX9_mark_8 : decode cX9_mark 8 = .ok (.getfield 63, 3) := by decide +kernel
theorem dX9_mark_11 : decode cX9_mark 11 = .ok (.aload_n 0, 1) := by decide +kernel
theorem dX9_mark_12 : decode cX9_mark 12 = .ok (.getfield 60, 3) := by decide +kernel
theorem dX9_mark_15 : decode cX9_mark 15 = .ok (.if_icmp .ge 15, 3) := by decide +kernel
theorem dX9_mark_18 : decode cX9_mark 18 = .ok (.aload_n 0, 1) := by decide +kernel
theorem dX9_mark_19 : decode cX9_mark 19 = .ok (.getfield 48, 3) := by decide +kernel
theorem dX9_mark_22 : decode cX9_mark 22 = .ok (.aload_n 0, 1) := by decide +kernel
theorem dX9_mark_23 : decode cX9_mark 23 = .ok (.getfield 63, 3) := by decide +kernel
theorem dX9_mark_26 : decode cX9_mark 26 = .ok (.iaload, 1) := by decide +kernel
theorem dX9_mark_27 : decode cX9_mark 27 = .ok (.goto 4, 3) := by decide +kernel
theorem dX9_mark_30 : decode cX9_mark 30 = .ok (.iconst (-1), 1) := by decide +kernel
theorem dX9_mark_31 : decode cX9_mark 31 = .ok (.ireturn, 1) := by decide +kernel
theorem dX9_digit_0 : decode cX9_digit 0 = .ok (.aload_n 0, 1) := by decide +kernel
theorem dX9_digit_1 : decode cX9_digit 1 = .ok (.dup, 1) := by decide +kernel
theorem dX9_digit_2 : decode cX9_digit 2 = .ok (.getfield 69, 3) := by decide +kernel
theorem dX9_digit_5 : decode cX9_digit 5 = .ok (.aload_n 0, 1) := by decide +kernel
theorem dX9_digit_6 : decode cX9_digit 6 = .ok (.invokevirtual 196, 3) := by decide +kernel
theorem dX9_digit_9 : decode cX9_digit 9 = .ok (.bipush 32, 2) := by decide +kernel
theorem dX9_digit_11 : decode cX9_digit 11 = .ok (.if_icmp .eq 7, 3) := by decide +kernel
theorem dX9_digit_14 : decode cX9_digit 14 = .ok (.iconst 1, 1) := by decide +kernel
theorem dX9_digit_15 : decode cX9_digit 15 = .ok (.goto 4, 3) := by decide +kernel
theorem dX9_digit_18 : decode cX9_digit 18 = .ok (.iconst 0, 1) := by decide +kernel
theorem dX9_digit_19 : decode cX9_digit 19 = .ok (.ior, 1) := by decide +kernel
theorem dX9_digit_20 : decode cX9_digit 20 = .ok (.putfield 69, 3) := by decide +kernel
theorem dX9_digit_23 : decode cX9_digit 23 = .ok (.aload_n 0, 1) := by decide +kernel
theorem dX9_digit_24 : decode cX9_digit 24 = .ok (.dup, 1) := by decide +kernel
theorem dX9_digit_25 : decode cX9_digit 25 = .ok (.getfield 63, 3) := by decide +kernel
theorem dX9_digit_28 : decode cX9_digit 28 = .ok (.aload_n 0, 1) := by decide +kernel
theorem dX9_digit_29 : decode cX9_digit 29 = .ok (.getfield 69, 3) := by decide +kernel
theorem dX9_digit_32 : decode cX9_digit 32 = .ok (.ifCond .eq 7, 3) := by decide +kernel
theorem dX9_digit_35 : decode cX9_digit 35 = .ok (.iconst 0, 1) := by decide +kernel
theorem dX9_digit_36 : decode cX9_digit 36 = .ok (.goto 4, 3) := by decide +kernel
theorem dX9_digit_39 : decode cX9_digit 39 = .ok (.iconst 1, 1) := by decide +kernel
theorem dX9_digit_40 : decode cX9_digit 40 = .ok (.iadd, 1) := by decide +kernel
theorem dX9_digit_41 : decode cX9_digit 41 = .ok (.putfield 63, 3) := by decide +kernel
theorem dX9_digit_44 : decode cX9_digit 44 = .ok (.aload_n 0, 1) := by decide +kernel
theorem dX9_digit_45 : decode cX9_digit 45 = .ok (.dup, 1) := by decide +kernel
theorem dX9_digit_46 : decode cX9_digit 46 = .ok (.getfield 69, 3) := by decide +kernel
theorem dX9_digit_49 : decode cX9_digit 49 = .ok (.aload_n 0, 1) := by decide +kernel
theorem dX9_digit_50 : decode cX9_digit 50 = .ok (.invokevirtual 196, 3) := by decide +kernel
theorem dX9_digit_53 : decode cX9_digit 53 = .ok (.bipush 48, 2) := by decide +kernel
theorem dX9_digit_55 : decode cX9_digit 55 = .ok (.bipush 57, 2) := by decide +kernel
theorem dX9_digit_57 : decode cX9_digit 57 = .ok (.invokestatic 127, 3) := by decide +kernel
theorem dX9_digit_60 : decode cX9_digit 60 = .ok (.ifCond .ne 7, 3) := by decide +kernel
theorem dX9_digit_63 : decode cX9_digit 63 = .ok (.iconst 1, 1) := by decide +kernel
theorem dX9_digit_64 : decode cX9_digit 64 = .ok (.goto 4, 3) := by decide +kernel
theorem dX9_digit_67 : decode cX9_digit 67 = .ok (.iconst 0, 1) := by decide +kernel
theorem dX9_digit_68 : decode cX9_digit 68 = .ok (.ior, 1) := by decide +kernel
theorem dX9_digit_69 : decode cX9_digit 69 = .ok (.putfield 69, 3) := by decide +kernel
theorem dX9_digit_72 : decode cX9_digit 72 = .ok (.aload_n 0, 1) := by decide +kernel
theorem dX9_digit_73 : decode cX9_digit 73 = .ok (.getfield 69, 3) := by decide +kernel
theorem dX9_digit_76 : decode cX9_digit 76 = .ok (.ifCond .eq 5, 3) := by decide +kernel
theorem dX9_digit_79 : decode cX9_digit 79 = .ok (.iconst 0, 1) := by decide +kernel
theorem dX9_digit_80 : decode cX9_digit 80 = .ok (.ireturn, 1) := by decide +kernel
theorem dX9_digit_81 : decode cX9_digit 81 = .ok (.aload_n 0, 1) := by decide +kernel
theorem dX9_digit_82 : decode cX9_digit 82 = .ok (.dup, 1) := by decide +kernel
theorem dX9_digit_83 : decode cX9_digit 83 = .ok (.getfield 63, 3) := by decide +kernel
theorem dX9_digit_86 : decode cX9_digit 86 = .ok (.iconst 1, 1) := by decide +kernel
theorem dX9_digit_87 : decode cX9_digit 87 = .ok (.iadd, 1) := by decide +kernel
theorem dX9_digit_88 : decode cX9_digit 88 = .ok (.putfield 63, 3) := by decide +kernel
theorem dX9_digit_91 : decode cX9_digit 91 = .ok (.aload_n 0, 1) := by decide +kernel
theorem dX9_digit_92 : decode cX9_digit 92 = .ok (.getfield 48, 3) := by decide +kernel
theorem dX9_digit_95 : decode cX9_digit 95 = .ok (.aload_n 0, 1) := by decide +kernel
theorem dX9_digit_96 : decode cX9_digit 96 = .ok (.getfield 63, 3) := by decide +kernel
theorem dX9_digit_99 : decode cX9_digit 99 = .ok (.iconst 1, 1) := by decide +kernel
theorem dX9_digit_100 : decode cX9_digit 100 = .ok (.isub, 1) := by decide +kernel
theorem dX9_digit_101 : decode cX9_digit 101 = .ok (.iaload, 1) := by decide +kernel
theorem dX9_digit_102 : decode cX9_digit 102 = .ok (.bipush 48, 2) := by decide +kernel
theorem dX9_digit_104 : decode cX9_digit 104 = .ok (.isub, 1) := by decide +kernel
theorem dX9_digit_105 : decode cX9_digit 105 = .ok (.ireturn, 1) := by decide +kernel
theorem dX9_pick_0 : decode cX9_pick 0 = .ok (.iload_n 0, 1) := by decide +kernel
theorem dX9_pick_1 : decode cX9_pick 1 = .ok (.tableswitch 54 0 5 #[39, 41, 43, 45, 48, 51], 39) := by decide +kernel
theorem dX9_pick_40 : decode cX9_pick 40 = .ok (.iload_n 1, 1) := by decide +kernel
theorem dX9_pick_41 : decode cX9_pick 41 = .ok (.ireturn, 1) := by decide +kernel
theorem dX9_pick_42 : decode cX9_pick 42 = .ok (.iload_n 2, 1) := by decide +kernel
theorem dX9_pick_43 : decode cX9_pick 43 = .ok (.ireturn, 1) := by decide +kernel
theorem dX9_pick_44 : decode cX9_pick 44 = .ok (.iload_n 3, 1) := by decide +kernel
theorem dX9_pick_45 : decode cX9_pick 45 = .ok (.ireturn, 1) := by decide +kernel
theorem dX9_pick_46 : decode cX9_pick 46 = .ok (.iload 4, 2) := by decide +kernel
theorem dX9_pick_48 : decode cX9_pick 48 = .ok (.ireturn, 1) := by decide +kernel
theorem dX9_pick_49 : decode cX9_pick 49 = .ok (.iload 5, 2) := by decide +kernel
theorem dX9_pick_51 : decode cX9_pick 51 = .ok (.ireturn, 1) := by decide +kernel
theorem dX9_pick_52 : decode cX9_pick 52 = .ok (.iload 6, 2) := by decide +kernel
theorem dX9_pick_54 : decode cX9_pick 54 = .ok (.ireturn, 1) := by decide +kernel
theorem dX9_pick_55 : decode cX9_pick 55 = .ok (.iconst 0, 1) := by decide +kernel
theorem dX9_pick_56 : decode cX9_pick 56 = .ok (.ireturn, 1) := by decide +kernel
theorem dX9_letter_0 : decode cX9_letter 0 = .ok (.iload_n 0, 1) := by decide +kernel
theorem dX9_letter_1 : decode cX9_letter 1 = .ok (.tableswitch 157 0 6 #[43, 58, 75, 92, 108, 125, 141], 43) := by decide +kernel
theorem dX9_letter_44 : decode cX9_letter 44 = .ok (.iload_n 1, 1) := by decide +kernel
theorem dX9_letter_45 : decode cX9_letter 45 = .ok (.bipush 108, 2) := by decide +kernel
theorem dX9_letter_47 : decode cX9_letter 47 = .ok (.bipush 97, 2) := by decide +kernel
theorem dX9_letter_49 : decode cX9_letter 49 = .ok (.bipush 110, 2) := by decide +kernel
theorem dX9_letter_51 : decode cX9_letter 51 = .ok (.bipush 101, 2) := by decide +kernel
theorem dX9_letter_53 : decode cX9_letter 53 = .ok (.iconst 0, 1) := by decide +kernel
theorem dX9_letter_54 : decode cX9_letter 54 = .ok (.iconst 0, 1) := by decide +kernel
theorem dX9_letter_55 : decode cX9_letter 55 = .ok (.invokestatic 199, 3) := by decide +kernel
theorem dX9_letter_58 : decode cX9_letter 58 = .ok (.ireturn, 1) := by decide +kernel
theorem dX9_letter_59 : decode cX9_letter 59 = .ok (.iload_n 1, 1) := by decide +kernel
theorem dX9_letter_60 : decode cX9_letter 60 = .ok (.bipush 98, 2) := by decide +kernel
theorem dX9_letter_62 : decode cX9_letter 62 = .ok (.bipush 117, 2) := by decide +kernel
theorem dX9_letter_64 : decode cX9_letter 64 = .ok (.bipush 109, 2) := by decide +kernel
theorem dX9_letter_66 : decode cX9_letter 66 = .ok (.bipush 112, 2) := by decide +kernel
theorem dX9_letter_68 : decode cX9_letter 68 = .ok (.bipush 101, 2) := by decide +kernel
theorem dX9_letter_70 : decode cX9_letter 70 = .ok (.bipush 114, 2) := by decide +kernel
theorem dX9_letter_72 : decode cX9_letter 72 = .ok (.invokestatic 199, 3) := by decide +kernel
theorem dX9_letter_75 : decode cX9_letter 75 = .ok (.ireturn, 1) := by decide +kernel
theorem dX9_letter_76 : decode cX9_letter 76 = .ok (.iload_n 1, 1) := by decide +kernel
theorem dX9_letter_77 : decode cX9_letter 77 = .ok (.bipush 116, 2) := by decide +kernel
theorem dX9_letter_79 : decode cX9_letter 79 = .ok (.bipush 97, 2) := by decide +kernel
theorem dX9_letter_81 : decode cX9_letter 81 = .ok (.bipush 114, 2) := by decide +kernel
theorem dX9_letter_83 : decode cX9_letter 83 = .ok (.bipush 103, 2) := by decide +kernel
theorem dX9_letter_85 : decode cX9_letter 85 = .ok (.bipush 101, 2) := by decide +kernel
theorem dX9_letter_87 : decode cX9_letter 87 = .ok (.bipush 116, 2) := by decide +kernel
theorem dX9_letter_89 : decode cX9_letter 89 = .ok (.invokestatic 199, 3) := by decide +kernel
theorem dX9_letter_92 : decode cX9_letter 92 = .ok (.ireturn, 1) := by decide +kernel
theorem dX9_letter_93 : decode cX9_letter 93 = .ok (.iload_n 1, 1) := by decide +kernel
theorem dX9_letter_94 : decode cX9_letter 94 = .ok (.bipush 110, 2) := by decide +kernel
theorem dX9_letter_96 : decode cX9_letter 96 = .ok (.bipush 117, 2) := by decide +kernel
theorem dX9_letter_98 : decode cX9_letter 98 = .ok (.bipush 100, 2) := by decide +kernel
theorem dX9_letter_100 : decode cX9_letter 100 = .ok (.bipush 103, 2) := by decide +kernel
theorem dX9_letter_102 : decode cX9_letter 102 = .ok (.bipush 101, 2) := by decide +kernel
theorem dX9_letter_104 : decode cX9_letter 104 = .ok (.iconst 0, 1) := by decide +kernel
theorem dX9_letter_105 : decode cX9_letter 105 = .ok (.invokestatic 199, 3) := by decide +kernel
theorem dX9_letter_108 : decode cX9_letter 108 = .ok (.ireturn, 1) := by decide +kernel
theorem dX9_letter_109 : decode cX9_letter 109 = .ok (.iload_n 1, 1) := by decide +kernel
theorem dX9_letter_110 : decode cX9_letter 110 = .ok (.bipush 112, 2) := by decide +kernel
theorem dX9_letter_112 : decode cX9_letter 112 = .ok (.bipush 108, 2) := by decide +kernel
theorem dX9_letter_114 : decode cX9_letter 114 = .ok (.bipush 97, 2) := by decide +kernel
theorem dX9_letter_116 : decode cX9_letter 116 = .ok (.bipush 121, 2) := by decide +kernel
theorem dX9_letter_118 : decode cX9_letter 118 = .ok (.bipush 101, 2) := by decide +kernel
theorem dX9_letter_120 : decode cX9_letter 120 = .ok (.bipush 114, 2) := by decide +kernel
theorem dX9_letter_122 : decode cX9_letter 122 = .ok (.invokestatic 199, 3) := by decide +kernel
theorem dX9_letter_125 : decode cX9_letter 125 = .ok (.ireturn, 1) := by decide +kernel
theorem dX9_letter_126 : decode cX9_letter 126 = .ok (.iload_n 1, 1) := by decide +kernel
theorem dX9_letter_127 : decode cX9_letter 127 = .ok (.bipush 115, 2) := by decide +kernel
theorem dX9_letter_129 : decode cX9_letter 129 = .ok (.bipush 116, 2) := by decide +kernel
theorem dX9_letter_131 : decode cX9_letter 131 = .ok (.bipush 97, 2) := by decide +kernel
theorem dX9_letter_133 : decode cX9_letter 133 = .ok (.bipush 114, 2) := by decide +kernel
theorem dX9_letter_135 : decode cX9_letter 135 = .ok (.bipush 116, 2) := by decide +kernel
theorem dX9_letter_137 : decode cX9_letter 137 = .ok (.iconst 0, 1) := by decide +kernel
theorem dX9_letter_138 : decode cX9_letter 138 = .ok (.invokestatic 199, 3) := by decide +kernel
theorem dX9_letter_141 : decode cX9_letter 141 = .ok (.ireturn, 1) := by decide +kernel
theorem dX9_letter_142 : decode cX9_letter 142 = .ok (.iload_n 1, 1) := by decide +kernel
theorem dX9_letter_143 : decode cX9_letter 143 = .ok (.bipush 100, 2) := by decide +kernel
theorem dX9_letter_145 : decode cX9_letter 145 = .ok (.bipush 114, 2) := by decide +kernel
theorem dX9_letter_147 : decode cX9_letter 147 = .ok (.bipush 97, 2) := by decide +kernel
theorem dX9_letter_149 : decode cX9_letter 149 = .ok (.bipush 105, 2) := by decide +kernel
theorem dX9_letter_151 : decode cX9_letter 151 = .ok (.bipush 110, 2) := by decide +kernel
theorem dX9_letter_153 : decode cX9_letter 153 = .ok (.iconst 0, 1) := by decide +kernel
theorem dX9_letter_154 : decode cX9_letter 154 = .ok (.invokestatic 199, 3) := by decide +kernel
theorem dX9_letter_157 : decode cX9_letter 157 = .ok (.ireturn, 1) := by decide +kernel
theorem dX9_letter_158 : decode cX9_letter 158 = .ok (.iload_n 1, 1) := by decide +kernel
theorem dX9_letter_159 : decode cX9_letter 159 = .ok (.bipush 113, 2) := by decide +kernel
theorem dX9_letter_161 : decode cX9_letter 161 = .ok (.bipush 117, 2) := by decide +kernel
theorem dX9_letter_163 : decode cX9_letter 163 = .ok (.bipush 105, 2) := by decide +kernel
theorem dX9_letter_165 : decode cX9_letter 165 = .ok (.bipush 116, 2) := by decide +kernel
theorem dX9_letter_167 : decode cX9_letter 167 = .ok (.iconst 0, 1) := by decide +kernel
theorem dX9_letter_168 : decode cX9_letter 168 = .ok (.iconst 0, 1) := by decide +kernel
theorem dX9_letter_169 : decode cX9_letter 169 = .ok (.invokestatic 199, 3) := by decide +kernel
theorem dX9_letter_172 : decode cX9_letter 172 = .ok (.ireturn, 1) := by decide +kernel
theorem dX9_word_0 : decode cX9_word 0 = .ok (.iconst 0, 1) := by decide +kernel
theorem dX9_word_1 : decode cX9_word 1 = .ok (.istore_n 1, 1) := by decide +kernel
theorem dX9_word_2 : decode cX9_word 2 = .ok (.iconst 0, 1) := by decide +kernel
theorem dX9_word_3 : decode cX9_word 3 = .ok (.istore_n 2, 1) := by decide +kernel
theorem dX9_word_4 : decode cX9_word 4 = .ok (.iload_n 2, 1) := by decide +kernel
theorem dX9_word_5 : decode cX9_word 5 = .ok (.bipush 8, 2) := by decide +kernel
theorem dX9_word_7 : decode cX9_word 7 = .ok (.if_icmp .ge 88, 3) := by decide +kernel
theorem dX9_word_10 : decode cX9_word 10 = .ok (.iconst 0, 1) := by decide +kernel
theorem dX9_word_11 : decode cX9_word 11 = .ok (.istore_n 3, 1) := by decide +kernel
theorem dX9_word_12 : decode cX9_word 12 = .ok (.iload_n 2, 1) := by decide +kernel
theorem dX9_word_13 : decode cX9_word 13 = .ok (.iload_n 3, 1) := by decide +kernel
theorem dX9_word_14 : decode cX9_word 14 = .ok (.invokestatic 203, 3) := by decide +kernel
theorem dX9_word_17 : decode cX9_word 17 = .ok (.ifCond .le 41, 3) := by decide +kernel
theorem dX9_word_20 : decode cX9_word 20 = .ok (.aload_n 0, 1) := by decide +kernel
theorem dX9_word_21 : decode cX9_word 21 = .ok (.getfield 63, 3) := by decide +kernel
theorem dX9_word_24 : decode cX9_word 24 = .ok (.iload_n 3, 1) := by decide +kernel
theorem dX9_word_25 : decode cX9_word 25 = .ok (.iadd, 1) := by decide +kernel
theorem dX9_word_26 : decode cX9_word 26 = .ok (.aload_n 0, 1) := by decide +kernel
theorem dX9_word_27 : decode cX9_word 27 = .ok (.getfield 60, 3) := by decide +kernel
theorem dX9_word_30 : decode cX9_word 30 = .ok (.if_icmp .ge 28, 3) := by decide +kernel
theorem dX9_word_33 : decode cX9_word 33 = .ok (.aload_n 0, 1) := by decide +kernel
theorem dX9_word_34 : decode cX9_word 34 = .ok (.getfield 48, 3) := by decide +kernel
theorem dX9_word_37 : decode cX9_word 37 = .ok (.aload_n 0, 1) := by decide +kernel
theorem dX9_word_38 : decode cX9_word 38 = .ok (.getfield 63, 3) := by decide +kernel
theorem dX9_word_41 : decode cX9_word 41 = .ok (.iload_n 3, 1) := by decide +kernel
theorem dX9_word_42 : decode cX9_word 42 = .ok (.iadd, 1) := by decide +kernel
theorem dX9_word_43 : decode cX9_word 43 = .ok (.iaload, 1) := by decide +kernel
theorem dX9_word_44 : decode cX9_word 44 = .ok (.iload_n 2, 1) := by decide +kernel
theorem dX9_word_45 : decode cX9_word 45 = .ok (.iload_n 3, 1) := by decide +kernel
theorem dX9_word_46 : decode cX9_word 46 = .ok (.invokestatic 203, 3) := by decide +kernel
theorem dX9_word_49 : decode cX9_word 49 = .ok (.if_icmp .ne 9, 3) := by decide +kernel
theorem dX9_word_52 : decode cX9_word 52 = .ok (.iinc 3 1, 3) := by decide +kernel
theorem dX9_word_55 : decode cX9_word 55 = .ok (.goto (-43), 3) := by decide +kernel
theorem dX9_word_58 : decode cX9_word 58 = .ok (.iload_n 2, 1) := by decide +kernel
theorem dX9_word_59 : decode cX9_word 59 = .ok (.iload_n 3, 1) := by decide +kernel
theorem dX9_word_60 : decode cX9_word 60 = .ok (.invokestatic 203, 3) := by decide +kernel
theorem dX9_word_63 : decode cX9_word 63 = .ok (.ifCond .ne 15, 3) := by decide +kernel
theorem dX9_word_66 : decode cX9_word 66 = .ok (.aload_n 0, 1) := by decide +kernel
theorem dX9_word_67 : decode cX9_word 67 = .ok (.dup, 1) := by decide +kernel
theorem dX9_word_68 : decode cX9_word 68 = .ok (.getfield 63, 3) := by decide +kernel
theorem dX9_word_71 : decode cX9_word 71 = .ok (.iload_n 3, 1) := by decide +kernel
theorem dX9_word_72 : decode cX9_word 72 = .ok (.iadd, 1) := by decide +kernel
theorem dX9_word_73 : decode cX9_word 73 = .ok (.putfield 63, 3) := by decide +kernel
theorem dX9_word_76 : decode cX9_word 76 = .ok (.iload_n 2, 1) := by decide +kernel
theorem dX9_word_77 : decode cX9_word 77 = .ok (.ireturn, 1) := by decide +kernel
theorem dX9_word_78 : decode cX9_word 78 = .ok (.iload_n 3, 1) := by decide +kernel
theorem dX9_word_79 : decode cX9_word 79 = .ok (.iload_n 1, 1) := by decide +kernel
theorem dX9_word_80 : decode cX9_word 80 = .ok (.if_icmp .le 7, 3) := by decide +kernel
theorem dX9_word_83 : decode cX9_word 83 = .ok (.iload_n 3, 1) := by decide +kernel
theorem dX9_word_84 : decode cX9_word 84 = .ok (.goto 4, 3) := by decide +kernel
theorem dX9_word_87 : decode cX9_word 87 = .ok (.iload_n 1, 1) := by decide +kernel
theorem dX9_word_88 : decode cX9_word 88 = .ok (.istore_n 1, 1) := by decide +kernel
theorem dX9_word_89 : decode cX9_word 89 = .ok (.iinc 2 1, 3) := by decide +kernel
theorem dX9_word_92 : decode cX9_word 92 = .ok (.goto (-88), 3) := by decide +kernel
theorem dX9_word_95 : decode cX9_word 95 = .ok (.aload_n 0, 1) := by decide +kernel
theorem dX9_word_96 : decode cX9_word 96 = .ok (.dup, 1) := by decide +kernel
theorem dX9_word_97 : decode cX9_word 97 = .ok (.getfield 63, 3) := by decide +kernel
theorem dX9_word_100 : decode cX9_word 100 = .ok (.iload_n 1, 1) := by decide +kernel
theorem dX9_word_101 : decode cX9_word 101 = .ok (.iadd, 1) := by decide +kernel
theorem dX9_word_102 : decode cX9_word 102 = .ok (.putfield 63, 3) := by decide +kernel
theorem dX9_word_105 : decode cX9_word 105 = .ok (.aload_n 0, 1) := by decide +kernel
theorem dX9_word_106 : decode cX9_word 106 = .ok (.iconst 1, 1) := by decide +kernel
theorem dX9_word_107 : decode cX9_word 107 = .ok (.putfield 69, 3) := by decide +kernel
theorem dX9_word_110 : decode cX9_word 110 = .ok (.iconst 0, 1) := by decide +kernel
theorem dX9_word_111 : decode cX9_word 111 = .ok (.ireturn, 1) := by decide +kernel
theorem dX9_command_0 : decode cX9_command 0 = .ok (.aload_n 0, 1) := by decide +kernel
theorem dX9_command_1 : decode cX9_command 1 = .ok (.invokevirtual 206, 3) := by decide +kernel
theorem dX9_command_4 : decode cX9_command 4 = .ok (.istore_n 1, 1) := by decide +kernel
theorem dX9_command_5 : decode cX9_command 5 = .ok (.iload_n 1, 1) := by decide +kernel
theorem dX9_command_6 : decode cX9_command 6 = .ok (.iconst 4, 1) := by decide +kernel
theorem dX9_command_7 : decode cX9_command 7 = .ok (.if_icmp .ge 10, 3) := by decide +kernel
theorem dX9_command_10 : decode cX9_command 10 = .ok (.aload_n 0, 1) := by decide +kernel
theorem dX9_command_11 : decode cX9_command 11 = .ok (.invokevirtual 209, 3) := by decide +kernel
theorem dX9_command_14 : decode cX9_command 14 = .ok (.goto 4, 3) := by decide +kernel
theorem dX9_command_17 : decode cX9_command 17 = .ok (.iconst 0, 1) := by decide +kernel
theorem dX9_command_18 : decode cX9_command 18 = .ok (.istore_n 2, 1) := by decide +kernel
theorem dX9_command_19 : decode cX9_command 19 = .ok (.aload_n 0, 1) := by decide +kernel
theorem dX9_command_20 : decode cX9_command 20 = .ok (.getfield 69, 3) := by decide +kernel
theorem dX9_command_23 : decode cX9_command 23 = .ok (.ifCond .eq 4, 3) := by decide +kernel
theorem dX9_command_26 : decode cX9_command 26 = .ok (.return_, 1) := by decide +kernel
theorem dX9_command_27 : decode cX9_command 27 = .ok (.aload_n 0, 1) := by decide +kernel
theorem dX9_command_28 : decode cX9_command 28 = .ok (.getfield 51, 3) := by decide +kernel
theorem dX9_command_31 : decode cX9_command 31 = .ok (.aload_n 0, 1) := by decide +kernel
theorem dX9_command_32 : decode cX9_command 32 = .ok (.getfield 66, 3) := by decide +kernel
theorem dX9_command_35 : decode cX9_command 35 = .ok (.iload_n 1, 1) := by decide +kernel
theorem dX9_command_36 : decode cX9_command 36 = .ok (.iastore, 1) := by decide +kernel
theorem dX9_command_37 : decode cX9_command 37 = .ok (.aload_n 0, 1) := by decide +kernel
theorem dX9_command_38 : decode cX9_command 38 = .ok (.getfield 54, 3) := by decide +kernel
theorem dX9_command_41 : decode cX9_command 41 = .ok (.aload_n 0, 1) := by decide +kernel
theorem dX9_command_42 : decode cX9_command 42 = .ok (.getfield 66, 3) := by decide +kernel
theorem dX9_command_45 : decode cX9_command 45 = .ok (.iload_n 2, 1) := by decide +kernel
theorem dX9_command_46 : decode cX9_command 46 = .ok (.iastore, 1) := by decide +kernel
theorem dX9_command_47 : decode cX9_command 47 = .ok (.aload_n 0, 1) := by decide +kernel
theorem dX9_command_48 : decode cX9_command 48 = .ok (.dup, 1) := by decide +kernel
theorem dX9_command_49 : decode cX9_command 49 = .ok (.getfield 66, 3) := by decide +kernel
theorem dX9_command_52 : decode cX9_command 52 = .ok (.iconst 1, 1) := by decide +kernel
theorem dX9_command_53 : decode cX9_command 53 = .ok (.iadd, 1) := by decide +kernel
theorem dX9_command_54 : decode cX9_command 54 = .ok (.putfield 66, 3) := by decide +kernel
theorem dX9_command_57 : decode cX9_command 57 = .ok (.return_, 1) := by decide +kernel
theorem dX9_parse_0 : decode cX9_parse 0 = .ok (.aload_n 0, 1) := by decide +kernel
theorem dX9_parse_1 : decode cX9_parse 1 = .ok (.aload_n 0, 1) := by decide +kernel
theorem dX9_parse_2 : decode cX9_parse 2 = .ok (.getfield 57, 3) := by decide +kernel
theorem dX9_parse_5 : decode cX9_parse 5 = .ok (.putfield 60, 3) := by decide +kernel
theorem dX9_parse_8 : decode cX9_parse 8 = .ok (.aload_n 0, 1) := by decide +kernel
theorem dX9_parse_9 : decode cX9_parse 9 = .ok (.iconst 0, 1) := by decide +kernel
theorem dX9_parse_10 : decode cX9_parse 10 = .ok (.putfield 57, 3) := by decide +kernel
theorem dX9_parse_13 : decode cX9_parse 13 = .ok (.aload_n 0, 1) := by decide +kernel
theorem dX9_parse_14 : decode cX9_parse 14 = .ok (.iconst 0, 1) := by decide +kernel
theorem dX9_parse_15 : decode cX9_parse 15 = .ok (.putfield 63, 3) := by decide +kernel
theorem dX9_parse_18 : decode cX9_parse 18 = .ok (.aload_n 0, 1) := by decide +kernel
theorem dX9_parse_19 : decode cX9_parse 19 = .ok (.iconst 0, 1) := by decide +kernel
theorem dX9_parse_20 : decode cX9_parse 20 = .ok (.putfield 66, 3) := by decide +kernel
theorem dX9_parse_23 : decode cX9_parse 23 = .ok (.aload_n 0, 1) := by decide +kernel
theorem dX9_parse_24 : decode cX9_parse 24 = .ok (.iconst 0, 1) := by decide +kernel
theorem dX9_parse_25 : decode cX9_parse 25 = .ok (.putfield 69, 3) := by decide +kernel
theorem dX9_parse_28 : decode cX9_parse 28 = .ok (.aload_n 0, 1) := by decide +kernel
theorem dX9_parse_29 : decode cX9_parse 29 = .ok (.invokevirtual 212, 3) := by decide +kernel
theorem dX9_parse_32 : decode cX9_parse 32 = .ok (.aload_n 0, 1) := by decide +kernel
theorem dX9_parse_33 : decode cX9_parse 33 = .ok (.invokevirtual 196, 3) := by decide +kernel
theorem dX9_parse_36 : decode cX9_parse 36 = .ok (.bipush 59, 2) := by decide +kernel
theorem dX9_parse_38 : decode cX9_parse 38 = .ok (.if_icmp .ne 20, 3) := by decide +kernel
theorem dX9_parse_41 : decode cX9_parse 41 = .ok (.aload_n 0, 1) := by decide +kernel
theorem dX9_parse_42 : decode cX9_parse 42 = .ok (.dup, 1) := by decide +kernel
theorem dX9_parse_43 : decode cX9_parse 43 = .ok (.getfield 63, 3) := by decide +kernel
theorem dX9_parse_46 : decode cX9_parse 46 = .ok (.iconst 1, 1) := by decide +kernel
theorem dX9_parse_47 : decode cX9_parse 47 = .ok (.iadd, 1) := by decide +kernel
theorem dX9_parse_48 : decode cX9_parse 48 = .ok (.putfield 63, 3) := by decide +kernel
theorem dX9_parse_51 : decode cX9_parse 51 = .ok (.aload_n 0, 1) := by decide +kernel
theorem dX9_parse_52 : decode cX9_parse 52 = .ok (.invokevirtual 212, 3) := by decide +kernel
theorem dX9_parse_55 : decode cX9_parse 55 = .ok (.goto (-23), 3) := by decide +kernel
theorem dX9_parse_58 : decode cX9_parse 58 = .ok (.aload_n 0, 1) := by decide +kernel
theorem dX9_parse_59 : decode cX9_parse 59 = .ok (.dup, 1) := by decide +kernel
theorem dX9_parse_60 : decode cX9_parse 60 = .ok (.getfield 69, 3) := by decide +kernel
theorem dX9_parse_63 : decode cX9_parse 63 = .ok (.aload_n 0, 1) := by decide +kernel
theorem dX9_parse_64 : decode cX9_parse 64 = .ok (.getfield 63, 3) := by decide +kernel
theorem dX9_parse_67 : decode cX9_parse 67 = .ok (.aload_n 0, 1) := by decide +kernel
theorem dX9_parse_68 : decode cX9_parse 68 = .ok (.getfield 60, 3) := by decide +kernel
theorem dX9_parse_71 : decode cX9_parse 71 = .ok (.if_icmp .ge 7, 3) := by decide +kernel
theorem dX9_parse_74 : decode cX9_parse 74 = .ok (.iconst 1, 1) := by decide +kernel
theorem dX9_parse_75 : decode cX9_parse 75 = .ok (.goto 4, 3) := by decide +kernel
theorem dX9_parse_78 : decode cX9_parse 78 = .ok (.iconst 0, 1) := by decide +kernel
theorem dX9_parse_79 : decode cX9_parse 79 = .ok (.ior, 1) := by decide +kernel
theorem dX9_parse_80 : decode cX9_parse 80 = .ok (.putfield 69, 3) := by decide +kernel
theorem dX9_parse_83 : decode cX9_parse 83 = .ok (.return_, 1) := by decide +kernel
theorem dX9_cannot_0 : decode cX9_cannot 0 = .ok (.aload_n 0, 1) := by decide +kernel
theorem dX9_cannot_1 : decode cX9_cannot 1 = .ok (.getfield 54, 3) := by decide +kernel
theorem dX9_cannot_4 : decode cX9_cannot 4 = .ok (.iload_n 1, 1) := by decide +kernel
theorem dX9_cannot_5 : decode cX9_cannot 5 = .ok (.iaload, 1) := by decide +kernel
theorem dX9_cannot_6 : decode cX9_cannot 6 = .ok (.istore_n 2, 1) := by decide +kernel
theorem dX9_cannot_7 : decode cX9_cannot 7 = .ok (.iconst 0, 1) := by decide +kernel
theorem dX9_cannot_8 : decode cX9_cannot 8 = .ok (.istore_n 3, 1) := by decide +kernel
theorem dX9_cannot_9 : decode cX9_cannot 9 = .ok (.aload_n 0, 1) := by decide +kernel
theorem dX9_cannot_10 : decode cX9_cannot 10 = .ok (.getfield 51, 3) := by decide +kernel
theorem dX9_cannot_13 : decode cX9_cannot 13 = .ok (.iload_n 1, 1) := by decide +kernel
theorem dX9_cannot_14 : decode cX9_cannot 14 = .ok (.iaload, 1) := by decide +kernel
theorem dX9_cannot_15 : decode cX9_cannot 15 = .ok (.tableswitch 164 0 6 #[41, 60, 79, 98, 116, 132, 148], 41) := by decide +kernel
theorem dX9_cannot_56 : decode cX9_cannot 56 = .ok (.aload_n 0, 1) := by decide +kernel
theorem dX9_cannot_57 : decode cX9_cannot 57 = .ok (.iload_n 2, 1) := by decide +kernel
theorem dX9_cannot_58 : decode cX9_cannot 58 = .ok (.iconst 4, 1) := by decide +kernel
theorem dX9_cannot_59 : decode cX9_cannot 59 = .ok (.invokevirtual 131, 3) := by decide +kernel
theorem dX9_cannot_62 : decode cX9_cannot 62 = .ok (.ifCond .le 5, 3) := by decide +kernel
theorem dX9_cannot_65 : decode cX9_cannot 65 = .ok (.iconst 1, 1) := by decide +kernel
theorem dX9_cannot_66 : decode cX9_cannot 66 = .ok (.ireturn, 1) := by decide +kernel
theorem dX9_cannot_67 : decode cX9_cannot 67 = .ok (.aload_n 0, 1) := by decide +kernel
theorem dX9_cannot_68 : decode cX9_cannot 68 = .ok (.iload_n 2, 1) := by decide +kernel
theorem dX9_cannot_69 : decode cX9_cannot 69 = .ok (.invokevirtual 134, 3) := by decide +kernel
theorem dX9_cannot_72 : decode cX9_cannot 72 = .ok (.istore_n 3, 1) := by decide +kernel
theorem dX9_cannot_73 : decode cX9_cannot 73 = .ok (.iconst 0, 1) := by decide +kernel
theorem dX9_cannot_74 : decode cX9_cannot 74 = .ok (.ireturn, 1) := by decide +kernel
theorem dX9_cannot_75 : decode cX9_cannot 75 = .ok (.aload_n 0, 1) := by decide +kernel
theorem dX9_cannot_76 : decode cX9_cannot 76 = .ok (.iload_n 2, 1) := by decide +kernel
theorem dX9_cannot_77 : decode cX9_cannot 77 = .ok (.iconst 3, 1) := by decide +kernel
theorem dX9_cannot_78 : decode cX9_cannot 78 = .ok (.invokevirtual 131, 3) := by decide +kernel
theorem dX9_cannot_81 : decode cX9_cannot 81 = .ok (.ifCond .le 5, 3) := by decide +kernel
theorem dX9_cannot_84 : decode cX9_cannot 84 = .ok (.iconst 1, 1) := by decide +kernel
theorem dX9_cannot_85 : decode cX9_cannot 85 = .ok (.ireturn, 1) := by decide +kernel
theorem dX9_cannot_86 : decode cX9_cannot 86 = .ok (.aload_n 0, 1) := by decide +kernel
theorem dX9_cannot_87 : decode cX9_cannot 87 = .ok (.iload_n 2, 1) := by decide +kernel
theorem dX9_cannot_88 : decode cX9_cannot 88 = .ok (.invokevirtual 137, 3) := by decide +kernel
theorem dX9_cannot_91 : decode cX9_cannot 91 = .ok (.istore_n 3, 1) := by decide +kernel
theorem dX9_cannot_92 : decode cX9_cannot 92 = .ok (.iconst 0, 1) := by decide +kernel
theorem dX9_cannot_93 : decode cX9_cannot 93 = .ok (.ireturn, 1) := by decide +kernel
theorem dX9_cannot_94 : decode cX9_cannot 94 = .ok (.aload_n 0, 1) := by decide +kernel
theorem dX9_cannot_95 : decode cX9_cannot 95 = .ok (.iload_n 2, 1) := by decide +kernel
theorem dX9_cannot_96 : decode cX9_cannot 96 = .ok (.iconst 5, 1) := by decide +kernel
theorem dX9_cannot_97 : decode cX9_cannot 97 = .ok (.invokevirtual 131, 3) := by decide +kernel
theorem dX9_cannot_100 : decode cX9_cannot 100 = .ok (.ifCond .le 5, 3) := by decide +kernel
theorem dX9_cannot_103 : decode cX9_cannot 103 = .ok (.iconst 1, 1) := by decide +kernel
theorem dX9_cannot_104 : decode cX9_cannot 104 = .ok (.ireturn, 1) := by decide +kernel
theorem dX9_cannot_105 : decode cX9_cannot 105 = .ok (.aload_n 0, 1) := by decide +kernel
theorem dX9_cannot_106 : decode cX9_cannot 106 = .ok (.iload_n 2, 1) := by decide +kernel
theorem dX9_cannot_107 : decode cX9_cannot 107 = .ok (.invokevirtual 140, 3) := by decide +kernel
theorem dX9_cannot_110 : decode cX9_cannot 110 = .ok (.istore_n 3, 1) := by decide +kernel
theorem dX9_cannot_111 : decode cX9_cannot 111 = .ok (.iconst 0, 1) := by decide +kernel
theorem dX9_cannot_112 : decode cX9_cannot 112 = .ok (.ireturn, 1) := by decide +kernel
theorem dX9_cannot_113 : decode cX9_cannot 113 = .ok (.aload_n 0, 1) := by decide +kernel
theorem dX9_cannot_114 : decode cX9_cannot 114 = .ok (.iload_n 2, 1) := by decide +kernel
theorem dX9_cannot_115 : decode cX9_cannot 115 = .ok (.invokevirtual 143, 3) := by decide +kernel
theorem dX9_cannot_118 : decode cX9_cannot 118 = .ok (.ifCond .le 5, 3) := by decide +kernel
theorem dX9_cannot_121 : decode cX9_cannot 121 = .ok (.iconst 1, 1) := by decide +kernel
theorem dX9_cannot_122 : decode cX9_cannot 122 = .ok (.ireturn, 1) := by decide +kernel
theorem dX9_cannot_123 : decode cX9_cannot 123 = .ok (.aload_n 0, 1) := by decide +kernel
theorem dX9_cannot_124 : decode cX9_cannot 124 = .ok (.iload_n 2, 1) := by decide +kernel
theorem dX9_cannot_125 : decode cX9_cannot 125 = .ok (.invokevirtual 146, 3) := by decide +kernel
theorem dX9_cannot_128 : decode cX9_cannot 128 = .ok (.istore_n 3, 1) := by decide +kernel
theorem dX9_cannot_129 : decode cX9_cannot 129 = .ok (.iconst 0, 1) := by decide +kernel
theorem dX9_cannot_130 : decode cX9_cannot 130 = .ok (.ireturn, 1) := by decide +kernel
theorem dX9_cannot_131 : decode cX9_cannot 131 = .ok (.aload_n 0, 1) := by decide +kernel
theorem dX9_cannot_132 : decode cX9_cannot 132 = .ok (.invokevirtual 83, 3) := by decide +kernel
theorem dX9_cannot_135 : decode cX9_cannot 135 = .ok (.ifCond .le 5, 3) := by decide +kernel
theorem dX9_cannot_138 : decode cX9_cannot 138 = .ok (.iconst 1, 1) := by decide +kernel
theorem dX9_cannot_139 : decode cX9_cannot 139 = .ok (.ireturn, 1) := by decide +kernel
theorem dX9_cannot_140 : decode cX9_cannot 140 = .ok (.aload_n 0, 1) := by decide +kernel
theorem dX9_cannot_141 : decode cX9_cannot 141 = .ok (.invokevirtual 91, 3) := by decide +kernel
theorem dX9_cannot_144 : decode cX9_cannot 144 = .ok (.istore_n 3, 1) := by decide +kernel
theorem dX9_cannot_145 : decode cX9_cannot 145 = .ok (.iconst 0, 1) := by decide +kernel
theorem dX9_cannot_146 : decode cX9_cannot 146 = .ok (.ireturn, 1) := by decide +kernel
theorem dX9_cannot_147 : decode cX9_cannot 147 = .ok (.aload_n 0, 1) := by decide +kernel
theorem dX9_cannot_148 : decode cX9_cannot 148 = .ok (.invokevirtual 100, 3) := by decide +kernel
theorem dX9_cannot_151 : decode cX9_cannot 151 = .ok (.ifCond .le 5, 3) := by decide +kernel
theorem dX9_cannot_154 : decode cX9_cannot 154 = .ok (.iconst 1, 1) := by decide +kernel
theorem dX9_cannot_155 : decode cX9_cannot 155 = .ok (.ireturn, 1) := by decide +kernel
theorem dX9_cannot_156 : decode cX9_cannot 156 = .ok (.aload_n 0, 1) := by decide +kernel
theorem dX9_cannot_157 : decode cX9_cannot 157 = .ok (.invokevirtual 103, 3) := by decide +kernel
theorem dX9_cannot_160 : decode cX9_cannot 160 = .ok (.istore_n 3, 1) := by decide +kernel
theorem dX9_cannot_161 : decode cX9_cannot 161 = .ok (.iconst 0, 1) := by decide +kernel
theorem dX9_cannot_162 : decode cX9_cannot 162 = .ok (.ireturn, 1) := by decide +kernel
theorem dX9_cannot_163 : decode cX9_cannot 163 = .ok (.aload_n 0, 1) := by decide +kernel
theorem dX9_cannot_164 : decode cX9_cannot 164 = .ok (.invokevirtual 76, 3) := by decide +kernel
theorem dX9_cannot_167 : decode cX9_cannot 167 = .ok (.ifCond .ne 5, 3) := by decide +kernel
theorem dX9_cannot_170 : decode cX9_cannot 170 = .ok (.iconst 1, 1) := by decide +kernel
theorem dX9_cannot_171 : decode cX9_cannot 171 = .ok (.ireturn, 1) := by decide +kernel
theorem dX9_cannot_172 : decode cX9_cannot 172 = .ok (.aload_n 0, 1) := by decide +kernel
theorem dX9_cannot_173 : decode cX9_cannot 173 = .ok (.invokevirtual 162, 3) := by decide +kernel
theorem dX9_cannot_176 : decode cX9_cannot 176 = .ok (.istore_n 3, 1) := by decide +kernel
theorem dX9_cannot_177 : decode cX9_cannot 177 = .ok (.iconst 0, 1) := by decide +kernel
theorem dX9_cannot_178 : decode cX9_cannot 178 = .ok (.ireturn, 1) := by decide +kernel
theorem dX9_cannot_179 : decode cX9_cannot 179 = .ok (.aload_n 0, 1) := by decide +kernel
theorem dX9_cannot_180 : decode cX9_cannot 180 = .ok (.invokevirtual 76, 3) := by decide +kernel
theorem dX9_cannot_183 : decode cX9_cannot 183 = .ok (.ifCond .ne 5, 3) := by decide +kernel
theorem dX9_cannot_186 : decode cX9_cannot 186 = .ok (.iconst 1, 1) := by decide +kernel
theorem dX9_cannot_187 : decode cX9_cannot 187 = .ok (.ireturn, 1) := by decide +kernel
theorem dX9_cannot_188 : decode cX9_cannot 188 = .ok (.aload_n 0, 1) := by decide +kernel
theorem dX9_cannot_189 : decode cX9_cannot 189 = .ok (.invokevirtual 106, 3) := by decide +kernel
theorem dX9_cannot_192 : decode cX9_cannot 192 = .ok (.istore_n 3, 1) := by decide +kernel
theorem dX9_cannot_193 : decode cX9_cannot 193 = .ok (.iconst 0, 1) := by decide +kernel
theorem dX9_cannot_194 : decode cX9_cannot 194 = .ok (.ireturn, 1) := by decide +kernel
theorem dX9_runScript_0 : decode cX9_runScript 0 = .ok (.aload_n 0, 1) := by decide +kernel
theorem dX9_runScript_1 : decode cX9_runScript 1 = .ok (.invokevirtual 80, 3) := by decide +kernel
theorem dX9_runScript_4 : decode cX9_runScript 4 = .ok (.aload_n 0, 1) := by decide +kernel
theorem dX9_runScript_5 : decode cX9_runScript 5 = .ok (.invokevirtual 215, 3) := by decide +kernel
theorem dX9_runScript_8 : decode cX9_runScript 8 = .ok (.aload_n 0, 1) := by decide +kernel
theorem dX9_runScript_9 : decode cX9_runScript 9 = .ok (.getfield 69, 3) := by decide +kernel
theorem dX9_runScript_12 : decode cX9_runScript 12 = .ok (.ifCond .eq 17, 3) := by decide +kernel
theorem dX9_runScript_15 : decode cX9_runScript 15 = .ok (.aload_n 0, 1) := by decide +kernel
theorem dX9_runScript_16 : decode cX9_runScript 16 = .ok (.aload_n 0, 1) := by decide +kernel
theorem dX9_runScript_17 : decode cX9_runScript 17 = .ok (.getfield 63, 3) := by decide +kernel
theorem dX9_runScript_20 : decode cX9_runScript 20 = .ok (.putfield 32, 3) := by decide +kernel
theorem dX9_runScript_23 : decode cX9_runScript 23 = .ok (.aload_n 0, 1) := by decide +kernel
theorem dX9_runScript_24 : decode cX9_runScript 24 = .ok (.iconst 1, 1) := by decide +kernel
theorem dX9_runScript_25 : decode cX9_runScript 25 = .ok (.invokevirtual 87, 3) := by decide +kernel
theorem dX9_runScript_28 : decode cX9_runScript 28 = .ok (.ireturn, 1) := by decide +kernel
theorem dX9_runScript_29 : decode cX9_runScript 29 = .ok (.iconst 0, 1) := by decide +kernel
theorem dX9_runScript_30 : decode cX9_runScript 30 = .ok (.istore_n 1, 1) := by decide +kernel
theorem dX9_runScript_31 : decode cX9_runScript 31 = .ok (.iload_n 1, 1) := by decide +kernel
theorem dX9_runScript_32 : decode cX9_runScript 32 = .ok (.aload_n 0, 1) := by decide +kernel
theorem dX9_runScript_33 : decode cX9_runScript 33 = .ok (.getfield 66, 3) := by decide +kernel
theorem dX9_runScript_36 : decode cX9_runScript 36 = .ok (.if_icmp .ge 44, 3) := by decide +kernel
theorem dX9_runScript_39 : decode cX9_runScript 39 = .ok (.aload_n 0, 1) := by decide +kernel
theorem dX9_runScript_40 : decode cX9_runScript 40 = .ok (.iload_n 1, 1) := by decide +kernel
theorem dX9_runScript_41 : decode cX9_runScript 41 = .ok (.invokevirtual 218, 3) := by decide +kernel
theorem dX9_runScript_44 : decode cX9_runScript 44 = .ok (.ifCond .ne 6, 3) := by decide +kernel
theorem dX9_runScript_47 : decode cX9_runScript 47 = .ok (.goto 27, 3) := by decide +kernel
theorem dX9_runScript_50 : decode cX9_runScript 50 = .ok (.aload_n 0, 1) := by decide +kernel
theorem dX9_runScript_51 : decode cX9_runScript 51 = .ok (.getfield 13, 3) := by decide +kernel
theorem dX9_runScript_54 : decode cX9_runScript 54 = .ok (.iconst 0, 1) := by decide +kernel
theorem dX9_runScript_55 : decode cX9_runScript 55 = .ok (.aload_n 0, 1) := by decide +kernel
theorem dX9_runScript_56 : decode cX9_runScript 56 = .ok (.getfield 7, 3) := by decide +kernel
theorem dX9_runScript_59 : decode cX9_runScript 59 = .ok (.iconst 0, 1) := by decide +kernel
theorem dX9_runScript_60 : decode cX9_runScript 60 = .ok (.invokestatic 72, 3) := by decide +kernel
theorem dX9_runScript_63 : decode cX9_runScript 63 = .ok (.aload_n 0, 1) := by decide +kernel
theorem dX9_runScript_64 : decode cX9_runScript 64 = .ok (.iload_n 1, 1) := by decide +kernel
theorem dX9_runScript_65 : decode cX9_runScript 65 = .ok (.putfield 35, 3) := by decide +kernel
theorem dX9_runScript_68 : decode cX9_runScript 68 = .ok (.aload_n 0, 1) := by decide +kernel
theorem dX9_runScript_69 : decode cX9_runScript 69 = .ok (.iconst 2, 1) := by decide +kernel
theorem dX9_runScript_70 : decode cX9_runScript 70 = .ok (.invokevirtual 87, 3) := by decide +kernel
theorem dX9_runScript_73 : decode cX9_runScript 73 = .ok (.ireturn, 1) := by decide +kernel
theorem dX9_runScript_74 : decode cX9_runScript 74 = .ok (.iinc 1 1, 3) := by decide +kernel
theorem dX9_runScript_77 : decode cX9_runScript 77 = .ok (.goto (-46), 3) := by decide +kernel
theorem dX9_runScript_80 : decode cX9_runScript 80 = .ok (.aload_n 0, 1) := by decide +kernel
theorem dX9_runScript_81 : decode cX9_runScript 81 = .ok (.aload_n 0, 1) := by decide +kernel
theorem dX9_runScript_82 : decode cX9_runScript 82 = .ok (.getfield 66, 3) := by decide +kernel
theorem dX9_runScript_85 : decode cX9_runScript 85 = .ok (.invokevirtual 94, 3) := by decide +kernel
theorem dX9_runScript_88 : decode cX9_runScript 88 = .ok (.ireturn, 1) := by decide +kernel
theorem dX9_present_0 : decode cX9_present 0 = .ok (.aload_n 0, 1) := by decide +kernel
theorem dX9_present_1 : decode cX9_present 1 = .ok (.iload_n 1, 1) := by decide +kernel
theorem dX9_present_2 : decode cX9_present 2 = .ok (.ifCond .ge 7, 3) := by decide +kernel
theorem dX9_present_5 : decode cX9_present 5 = .ok (.iconst 1, 1) := by decide +kernel
theorem dX9_present_6 : decode cX9_present 6 = .ok (.goto 4, 3) := by decide +kernel
theorem dX9_present_9 : decode cX9_present 9 = .ok (.iconst 0, 1) := by decide +kernel
theorem dX9_present_10 : decode cX9_present 10 = .ok (.putfield 25, 3) := by decide +kernel
theorem dX9_present_13 : decode cX9_present 13 = .ok (.aload_n 0, 1) := by decide +kernel
theorem dX9_present_14 : decode cX9_present 14 = .ok (.getfield 25, 3) := by decide +kernel
theorem dX9_present_17 : decode cX9_present 17 = .ok (.ifCond .le 7, 3) := by decide +kernel
theorem dX9_present_20 : decode cX9_present 20 = .ok (.iconst 0, 1) := by decide +kernel
theorem dX9_present_21 : decode cX9_present 21 = .ok (.goto 4, 3) := by decide +kernel
theorem dX9_present_24 : decode cX9_present 24 = .ok (.iload_n 1, 1) := by decide +kernel
theorem dX9_present_25 : decode cX9_present 25 = .ok (.ireturn, 1) := by decide +kernel
theorem dX9_errorPosition_0 : decode cX9_errorPosition 0 = .ok (.aload_n 0, 1) := by decide +kernel
theorem dX9_errorPosition_1 : decode cX9_errorPosition 1 = .ok (.aload_n 0, 1) := by decide +kernel
theorem dX9_errorPosition_2 : decode cX9_errorPosition 2 = .ok (.getfield 32, 3) := by decide +kernel
theorem dX9_errorPosition_5 : decode cX9_errorPosition 5 = .ok (.invokevirtual 222, 3) := by decide +kernel
theorem dX9_errorPosition_8 : decode cX9_errorPosition 8 = .ok (.ireturn, 1) := by decide +kernel
theorem dX9_failedCommand_0 : decode cX9_failedCommand 0 = .ok (.aload_n 0, 1) := by decide +kernel
theorem dX9_failedCommand_1 : decode cX9_failedCommand 1 = .ok (.aload_n 0, 1) := by decide +kernel
theorem dX9_failedCommand_2 : decode cX9_failedCommand 2 = .ok (.getfield 35, 3) := by decide +kernel
theorem dX9_failedCommand_5 : decode cX9_failedCommand 5 = .ok (.invokevirtual 222, 3) := by decide +kernel
theorem dX9_failedCommand_8 : decode cX9_failedCommand 8 = .ok (.ireturn, 1) := by decide +kernel
theorem dX9_undo_0 : decode cX9_undo 0 = .ok (.aload_n 0, 1) := by decide +kernel
theorem dX9_undo_1 : decode cX9_undo 1 = .ok (.aload_n 0, 1) := by decide +kernel
theorem dX9_undo_2 : decode cX9_undo 2 = .ok (.getfield 29, 3) := by decide +kernel
theorem dX9_undo_5 : decode cX9_undo 5 = .ok (.ifCond .ne 7, 3) := by decide +kernel
theorem dX9_undo_8 : decode cX9_undo 8 = .ok (.iconst 1, 1) := by decide +kernel
theorem dX9_undo_9 : decode cX9_undo 9 = .ok (.goto 4, 3) := by decide +kernel
theorem dX9_undo_12 : decode cX9_undo 12 = .ok (.iconst 0, 1) := by decide +kernel
theorem dX9_undo_13 : decode cX9_undo 13 = .ok (.putfield 25, 3) := by decide +kernel
theorem dX9_undo_16 : decode cX9_undo 16 = .ok (.aload_n 0, 1) := by decide +kernel
theorem dX9_undo_17 : decode cX9_undo 17 = .ok (.getfield 25, 3) := by decide +kernel
theorem dX9_undo_20 : decode cX9_undo 20 = .ok (.ifCond .le 5, 3) := by decide +kernel
theorem dX9_undo_23 : decode cX9_undo 23 = .ok (.iconst 0, 1) := by decide +kernel
theorem dX9_undo_24 : decode cX9_undo 24 = .ok (.ireturn, 1) := by decide +kernel
theorem dX9_undo_25 : decode cX9_undo 25 = .ok (.aload_n 0, 1) := by decide +kernel
theorem dX9_undo_26 : decode cX9_undo 26 = .ok (.dup, 1) := by decide +kernel
theorem dX9_undo_27 : decode cX9_undo 27 = .ok (.getfield 29, 3) := by decide +kernel
theorem dX9_undo_30 : decode cX9_undo 30 = .ok (.iconst 1, 1) := by decide +kernel
theorem dX9_undo_31 : decode cX9_undo 31 = .ok (.isub, 1) := by decide +kernel
theorem dX9_undo_32 : decode cX9_undo 32 = .ok (.putfield 29, 3) := by decide +kernel
theorem dX9_undo_35 : decode cX9_undo 35 = .ok (.aload_n 0, 1) := by decide +kernel
theorem dX9_undo_36 : decode cX9_undo 36 = .ok (.getfield 22, 3) := by decide +kernel
theorem dX9_undo_39 : decode cX9_undo 39 = .ok (.bipush 64, 2) := by decide +kernel
theorem dX9_undo_41 : decode cX9_undo 41 = .ok (.aload_n 0, 1) := by decide +kernel
theorem dX9_undo_42 : decode cX9_undo 42 = .ok (.getfield 29, 3) := by decide +kernel
theorem dX9_undo_45 : decode cX9_undo 45 = .ok (.imul, 1) := by decide +kernel
theorem dX9_undo_46 : decode cX9_undo 46 = .ok (.aload_n 0, 1) := by decide +kernel
theorem dX9_undo_47 : decode cX9_undo 47 = .ok (.getfield 7, 3) := by decide +kernel
theorem dX9_undo_50 : decode cX9_undo 50 = .ok (.iconst 0, 1) := by decide +kernel
theorem dX9_undo_51 : decode cX9_undo 51 = .ok (.invokestatic 72, 3) := by decide +kernel
theorem dX9_undo_54 : decode cX9_undo 54 = .ok (.aload_n 0, 1) := by decide +kernel
theorem dX9_undo_55 : decode cX9_undo 55 = .ok (.getfield 29, 3) := by decide +kernel
theorem dX9_undo_58 : decode cX9_undo 58 = .ok (.ireturn, 1) := by decide +kernel
theorem dX9_save_0 : decode cX9_save 0 = .ok (.aload_n 0, 1) := by decide +kernel
theorem dX9_save_1 : decode cX9_save 1 = .ok (.iconst 0, 1) := by decide +kernel
theorem dX9_save_2 : decode cX9_save 2 = .ok (.putfield 25, 3) := by decide +kernel
theorem dX9_save_5 : decode cX9_save 5 = .ok (.aload_n 0, 1) := by decide +kernel
theorem dX9_save_6 : decode cX9_save 6 = .ok (.getfield 7, 3) := by decide +kernel
theorem dX9_save_9 : decode cX9_save 9 = .ok (.iconst 0, 1) := by decide +kernel
theorem dX9_save_10 : decode cX9_save 10 = .ok (.aload_n 0, 1) := by decide +kernel
theorem dX9_save_11 : decode cX9_save 11 = .ok (.getfield 19, 3) := by decide +kernel
theorem dX9_save_14 : decode cX9_save 14 = .ok (.iconst 0, 1) := by decide +kernel
theorem dX9_save_15 : decode cX9_save 15 = .ok (.invokestatic 72, 3) := by decide +kernel
theorem dX9_save_18 : decode cX9_save 18 = .ok (.aload_n 0, 1) := by decide +kernel
theorem dX9_save_19 : decode cX9_save 19 = .ok (.iconst 1, 1) := by decide +kernel
theorem dX9_save_20 : decode cX9_save 20 = .ok (.putfield 38, 3) := by decide +kernel
theorem dX9_save_23 : decode cX9_save 23 = .ok (.aload_n 0, 1) := by decide +kernel
theorem dX9_save_24 : decode cX9_save 24 = .ok (.getfield 7, 3) := by decide +kernel
theorem dX9_save_27 : decode cX9_save 27 = .ok (.iconst 2, 1) := by decide +kernel
theorem dX9_save_28 : decode cX9_save 28 = .ok (.iaload, 1) := by decide +kernel
theorem dX9_save_29 : decode cX9_save 29 = .ok (.ireturn, 1) := by decide +kernel
theorem dX9_restore_0 : decode cX9_restore 0 = .ok (.aload_n 0, 1) := by decide +kernel
theorem dX9_restore_1 : decode cX9_restore 1 = .ok (.aload_n 0, 1) := by decide +kernel
theorem dX9_restore_2 : decode cX9_restore 2 = .ok (.getfield 38, 3) := by decide +kernel
theorem dX9_restore_5 : decode cX9_restore 5 = .ok (.ifCond .eq 7, 3) := by decide +kernel
theorem dX9_restore_8 : decode cX9_restore 8 = .ok (.iconst 0, 1) := by decide +kernel
theorem dX9_restore_9 : decode cX9_restore 9 = .ok (.goto 4, 3) := by decide +kernel
theorem dX9_restore_12 : decode cX9_restore 12 = .ok (.iconst 1, 1) := by decide +kernel
theorem dX9_restore_13 : decode cX9_restore 13 = .ok (.putfield 25, 3) := by decide +kernel
theorem dX9_restore_16 : decode cX9_restore 16 = .ok (.aload_n 0, 1) := by decide +kernel
theorem dX9_restore_17 : decode cX9_restore 17 = .ok (.getfield 25, 3) := by decide +kernel
theorem dX9_restore_20 : decode cX9_restore 20 = .ok (.ifCond .le 5, 3) := by decide +kernel
theorem dX9_restore_23 : decode cX9_restore 23 = .ok (.iconst 0, 1) := by decide +kernel
theorem dX9_restore_24 : decode cX9_restore 24 = .ok (.ireturn, 1) := by decide +kernel
theorem dX9_restore_25 : decode cX9_restore 25 = .ok (.aload_n 0, 1) := by decide +kernel
theorem dX9_restore_26 : decode cX9_restore 26 = .ok (.getfield 19, 3) := by decide +kernel
theorem dX9_restore_29 : decode cX9_restore 29 = .ok (.iconst 0, 1) := by decide +kernel
theorem dX9_restore_30 : decode cX9_restore 30 = .ok (.aload_n 0, 1) := by decide +kernel
theorem dX9_restore_31 : decode cX9_restore 31 = .ok (.getfield 7, 3) := by decide +kernel
theorem dX9_restore_34 : decode cX9_restore 34 = .ok (.iconst 0, 1) := by decide +kernel
theorem dX9_restore_35 : decode cX9_restore 35 = .ok (.invokestatic 72, 3) := by decide +kernel
theorem dX9_restore_38 : decode cX9_restore 38 = .ok (.aload_n 0, 1) := by decide +kernel
theorem dX9_restore_39 : decode cX9_restore 39 = .ok (.iconst 0, 1) := by decide +kernel
theorem dX9_restore_40 : decode cX9_restore 40 = .ok (.putfield 29, 3) := by decide +kernel
theorem dX9_restore_43 : decode cX9_restore 43 = .ok (.aload_n 0, 1) := by decide +kernel
theorem dX9_restore_44 : decode cX9_restore 44 = .ok (.getfield 7, 3) := by decide +kernel
theorem dX9_restore_47 : decode cX9_restore 47 = .ok (.iconst 2, 1) := by decide +kernel
theorem dX9_restore_48 : decode cX9_restore 48 = .ok (.iaload, 1) := by decide +kernel
theorem dX9_restore_49 : decode cX9_restore 49 = .ok (.ireturn, 1) := by decide +kernel
