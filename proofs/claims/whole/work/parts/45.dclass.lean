theorem dX1_init_0 : decode cX1_init 0 = .ok (.aload_n 0, 1) := by decide +kernel
theorem dX1_init_1 : decode cX1_init 1 = .ok (.invokespecial 3, 3) := by decide +kernel
theorem dX1_init_4 : decode cX1_init 4 = .ok (.aload_n 0, 1) := by decide +kernel
theorem dX1_init_5 : decode cX1_init 5 = .ok (.iconst 1, 1) := by decide +kernel
theorem dX1_init_6 : decode cX1_init 6 = .ok (.putfield 9, 3) := by decide +kernel
theorem dX1_init_9 : decode cX1_init 9 = .ok (.aload_n 0, 1) := by decide +kernel
theorem dX1_init_10 : decode cX1_init 10 = .ok (.iconst 4, 1) := by decide +kernel
theorem dX1_init_11 : decode cX1_init 11 = .ok (.newarray .boolean, 2) := by decide +kernel
theorem dX1_init_13 : decode cX1_init 13 = .ok (.putfield 15, 3) := by decide +kernel
theorem dX1_init_16 : decode cX1_init 16 = .ok (.aload_n 0, 1) := by decide +kernel
theorem dX1_init_17 : decode cX1_init 17 = .ok (.iconst 3, 1) := by decide +kernel
theorem dX1_init_18 : decode cX1_init 18 = .ok (.newarray .int, 2) := by decide +kernel
theorem dX1_init_20 : decode cX1_init 20 = .ok (.putfield 19, 3) := by decide +kernel
theorem dX1_init_23 : decode cX1_init 23 = .ok (.aload_n 0, 1) := by decide +kernel
theorem dX1_init_24 : decode cX1_init 24 = .ok (.iconst 5, 1) := by decide +kernel
theorem dX1_init_25 : decode cX1_init 25 = .ok (.newarray .boolean, 2) := by decide +kernel
theorem dX1_init_27 : decode cX1_init 27 = .ok (.putfield 23, 3) := by decide +kernel
theorem dX1_init_30 : decode cX1_init 30 = .ok (.return_, 1) := by decide +kernel
theorem dX1_begin_0 : decode cX1_begin 0 = .ok (.aload_n 0, 1) := by decide +kernel
theorem dX1_begin_1 : decode cX1_begin 1 = .ok (.iconst 1, 1) := by decide +kernel
theorem dX1_begin_2 : decode cX1_begin 2 = .ok (.putfield 9, 3) := by decide +kernel
theorem dX1_begin_5 : decode cX1_begin 5 = .ok (.aload_n 0, 1) := by decide +kernel
theorem dX1_begin_6 : decode cX1_begin 6 = .ok (.getfield 15, 3) := by decide +kernel
theorem dX1_begin_9 : decode cX1_begin 9 = .ok (.invokestatic 26, 3) := by decide +kernel
theorem dX1_begin_12 : decode cX1_begin 12 = .ok (.iconst 0, 1) := by decide +kernel
theorem dX1_begin_13 : decode cX1_begin 13 = .ok (.istore_n 1, 1) := by decide +kernel
theorem dX1_begin_14 : decode cX1_begin 14 = .ok (.iload_n 1, 1) := by decide +kernel
theorem dX1_begin_15 : decode cX1_begin 15 = .ok (.iconst 3, 1) := by decide +kernel
theorem dX1_begin_16 : decode cX1_begin 16 = .ok (.if_icmp .ge 17, 3) := by decide +kernel
theorem dX1_begin_19 : decode cX1_begin 19 = .ok (.aload_n 0, 1) := by decide +kernel
theorem dX1_begin_20 : decode cX1_begin 20 = .ok (.getfield 19, 3) := by decide +kernel
theorem dX1_begin_23 : decode cX1_begin 23 = .ok (.iload_n 1, 1) := by decide +kernel
theorem dX1_begin_24 : decode cX1_begin 24 = .ok (.bipush 50, 2) := by decide +kernel
theorem dX1_begin_26 : decode cX1_begin 26 = .ok (.iastore, 1) := by decide +kernel
theorem dX1_begin_27 : decode cX1_begin 27 = .ok (.iinc 1 1, 3) := by decide +kernel
theorem dX1_begin_30 : decode cX1_begin 30 = .ok (.goto (-16), 3) := by decide +kernel
theorem dX1_begin_33 : decode cX1_begin 33 = .ok (.aload_n 0, 1) := by decide +kernel
theorem dX1_begin_34 : decode cX1_begin 34 = .ok (.getfield 23, 3) := by decide +kernel
theorem dX1_begin_37 : decode cX1_begin 37 = .ok (.invokestatic 26, 3) := by decide +kernel
theorem dX1_begin_40 : decode cX1_begin 40 = .ok (.aload_n 0, 1) := by decide +kernel
theorem dX1_begin_41 : decode cX1_begin 41 = .ok (.iconst 0, 1) := by decide +kernel
theorem dX1_begin_42 : decode cX1_begin 42 = .ok (.putfield 30, 3) := by decide +kernel
theorem dX1_begin_45 : decode cX1_begin 45 = .ok (.aload_n 0, 1) := by decide +kernel
theorem dX1_begin_46 : decode cX1_begin 46 = .ok (.iconst 0, 1) := by decide +kernel
theorem dX1_begin_47 : decode cX1_begin 47 = .ok (.putfield 33, 3) := by decide +kernel
theorem dX1_begin_50 : decode cX1_begin 50 = .ok (.aload_n 0, 1) := by decide +kernel
theorem dX1_begin_51 : decode cX1_begin 51 = .ok (.iconst 0, 1) := by decide +kernel
theorem dX1_begin_52 : decode cX1_begin 52 = .ok (.putfield 36, 3) := by decide +kernel
theorem dX1_begin_55 : decode cX1_begin 55 = .ok (.aload_n 0, 1) := by decide +kernel
theorem dX1_begin_56 : decode cX1_begin 56 = .ok (.iconst 0, 1) := by decide +kernel
theorem dX1_begin_57 : decode cX1_begin 57 = .ok (.putfield 39, 3) := by decide +kernel
theorem dX1_begin_60 : decode cX1_begin 60 = .ok (.aload_n 0, 1) := by decide +kernel
theorem dX1_begin_61 : decode cX1_begin 61 = .ok (.iconst 0, 1) := by decide +kernel
theorem dX1_begin_62 : decode cX1_begin 62 = .ok (.putfield 42, 3) := by decide +kernel
theorem dX1_begin_65 : decode cX1_begin 65 = .ok (.aload_n 0, 1) := by decide +kernel
theorem dX1_begin_66 : decode cX1_begin 66 = .ok (.iconst 0, 1) := by decide +kernel
theorem dX1_begin_67 : decode cX1_begin 67 = .ok (.putfield 45, 3) := by decide +kernel
theorem dX1_begin_70 : decode cX1_begin 70 = .ok (.aload_n 0, 1) := by decide +kernel
theorem dX1_begin_71 : decode cX1_begin 71 = .ok (.iconst 0, 1) := by decide +kernel
theorem dX1_begin_72 : decode cX1_begin 72 = .ok (.putfield 49, 3) := by decide +kernel
theorem dX1_begin_75 : decode cX1_begin 75 = .ok (.return_, 1) := by decide +kernel
theorem dX1_copyFrom_0 : decode cX1_copyFrom 0 = .ok (.aload_n 0, 1) := by decide +kernel
theorem dX1_copyFrom_1 : decode cX1_copyFrom 1 = .ok (.aload_n 1, 1) := by decide +kernel
theorem dX1_copyFrom_2 : decode cX1_copyFrom 2 = .ok (.getfield 9, 3) := by decide +kernel
theorem dX1_copyFrom_5 : decode cX1_copyFrom 5 = .ok (.putfield 9, 3) := by decide +kernel
theorem dX1_copyFrom_8 : decode cX1_copyFrom 8 = .ok (.aload_n 1, 1) := by decide +kernel
theorem dX1_copyFrom_9 : decode cX1_copyFrom 9 = .ok (.getfield 15, 3) := by decide +kernel
theorem dX1_copyFrom_12 : decode cX1_copyFrom 12 = .ok (.aload_n 0, 1) := by decide +kernel
theorem dX1_copyFrom_13 : decode cX1_copyFrom 13 = .ok (.getfield 15, 3) := by decide +kernel
theorem dX1_copyFrom_16 : decode cX1_copyFrom 16 = .ok (.invokestatic 52, 3) := by decide +kernel
theorem dX1_copyFrom_19 : decode cX1_copyFrom 19 = .ok (.aload_n 1, 1) := by decide +kernel
theorem dX1_copyFrom_20 : decode cX1_copyFrom 20 = .ok (.getfield 19, 3) := by decide +kernel
theorem dX1_copyFrom_23 : decode cX1_copyFrom 23 = .ok (.iconst 0, 1) := by decide +kernel
theorem dX1_copyFrom_24 : decode cX1_copyFrom 24 = .ok (.aload_n 0, 1) := by decide +kernel
theorem dX1_copyFrom_25 : decode cX1_copyFrom 25 = .ok (.getfield 19, 3) := by decide +kernel
theorem dX1_copyFrom_28 : decode cX1_copyFrom 28 = .ok (.iconst 0, 1) := by decide +kernel
theorem dX1_copyFrom_29 : decode cX1_copyFrom 29 = .ok (.iconst 3, 1) := by decide +kernel
theorem dX1_copyFrom_30 : decode cX1_copyFrom 30 = .ok (.invokestatic 56, 3) := by decide +kernel
theorem dX1_copyFrom_33 : decode cX1_copyFrom 33 = .ok (.aload_n 1, 1) := by decide +kernel
theorem dX1_copyFrom_34 : decode cX1_copyFrom 34 = .ok (.getfield 23, 3) := by decide +kernel
theorem dX1_copyFrom_37 : decode cX1_copyFrom 37 = .ok (.aload_n 0, 1) := by decide +kernel
theorem dX1_copyFrom_38 : decode cX1_copyFrom 38 = .ok (.getfield 23, 3) := by decide +kernel
theorem dX1_copyFrom_41 : decode cX1_copyFrom 41 = .ok (.invokestatic 52, 3) := by decide +kernel
theorem dX1_copyFrom_44 : decode cX1_copyFrom 44 = .ok (.aload_n 0, 1) := by decide +kernel
theorem dX1_copyFrom_45 : decode cX1_copyFrom 45 = .ok (.aload_n 1, 1) := by decide +kernel
theorem dX1_copyFrom_46 : decode cX1_copyFrom 46 = .ok (.getfield 30, 3) := by decide +kernel
theorem dX1_copyFrom_49 : decode cX1_copyFrom 49 = .ok (.putfield 30, 3) := by decide +kernel
theorem dX1_copyFrom_52 : decode cX1_copyFrom 52 = .ok (.aload_n 0, 1) := by decide +kernel
theorem dX1_copyFrom_53 : decode cX1_copyFrom 53 = .ok (.aload_n 1, 1) := by decide +kernel
theorem dX1_copyFrom_54 : decode cX1_copyFrom 54 = .ok (.getfield 33, 3) := by decide +kernel
theorem dX1_copyFrom_57 : decode cX1_copyFrom 57 = .ok (.putfield 33, 3) := by decide +kernel
theorem dX1_copyFrom_60 : decode cX1_copyFrom 60 = .ok (.aload_n 0, 1) := by decide +kernel
theorem dX1_copyFrom_61 : decode cX1_copyFrom 61 = .ok (.aload_n 1, 1) := by decide +kernel
theorem dX1_copyFrom_62 : decode cX1_copyFrom 62 = .ok (.getfield 36, 3) := by decide +kernel
theorem dX1_copyFrom_65 : decode cX1_copyFrom 65 = .ok (.putfield 36, 3) := by decide +kernel
theorem dX1_copyFrom_68 : decode cX1_copyFrom 68 = .ok (.aload_n 0, 1) := by decide +kernel
theorem dX1_copyFrom_69 : decode cX1_copyFrom 69 = .ok (.aload_n 1, 1) := by decide +kernel
theorem dX1_copyFrom_70 : decode cX1_copyFrom 70 = .ok (.getfield 39, 3) := by decide +kernel
theorem dX1_copyFrom_73 : decode cX1_copyFrom 73 = .ok (.putfield 39, 3) := by decide +kernel
theorem dX1_copyFrom_76 : decode cX1_copyFrom 76 = .ok (.aload_n 0, 1) := by decide +kernel
theorem dX1_copyFrom_77 : decode cX1_copyFrom 77 = .ok (.aload_n 1, 1) := by decide +kernel
theorem dX1_copyFrom_78 : decode cX1_copyFrom 78 = .ok (.getfield 42, 3) := by decide +kernel
theorem dX1_copyFrom_81 : decode cX1_copyFrom 81 = .ok (.putfield 42, 3) := by decide +kernel
theorem dX1_copyFrom_84 : decode cX1_copyFrom 84 = .ok (.aload_n 0, 1) := by decide +kernel
theorem dX1_copyFrom_85 : decode cX1_copyFrom 85 = .ok (.aload_n 1, 1) := by decide +kernel
theorem dX1_copyFrom_86 : decode cX1_copyFrom 86 = .ok (.getfield 45, 3) := by decide +kernel
theorem dX1_copyFrom_89 : decode cX1_copyFrom 89 = .ok (.putfield 45, 3) := by decide +kernel
theorem dX1_copyFrom_92 : decode cX1_copyFrom 92 = .ok (.aload_n 0, 1) := by decide +kernel
theorem dX1_copyFrom_93 : decode cX1_copyFrom 93 = .ok (.aload_n 1, 1) := by decide +kernel
theorem dX1_copyFrom_94 : decode cX1_copyFrom 94 = .ok (.getfield 49, 3) := by decide +kernel
theorem dX1_copyFrom_97 : decode cX1_copyFrom 97 = .ok (.putfield 49, 3) := by decide +kernel
theorem dX1_copyFrom_100 : decode cX1_copyFrom 100 = .ok (.return_, 1) := by decide +kernel
theorem dX1_strikeLane_0 : decode cX1_strikeLane 0 = .ok (.aload_n 0, 1) := by decide +kernel
theorem dX1_strikeLane_1 : decode cX1_strikeLane 1 = .ok (.invokevirtual 62, 3) := by decide +kernel
theorem dX1_strikeLane_4 : decode cX1_strikeLane 4 = .ok (.aload_n 0, 1) := by decide +kernel
theorem dX1_strikeLane_5 : decode cX1_strikeLane 5 = .ok (.getfield 45, 3) := by decide +kernel
theorem dX1_strikeLane_8 : decode cX1_strikeLane 8 = .ok (.ifCond .eq 5, 3) := by decide +kernel
theorem dX1_strikeLane_11 : decode cX1_strikeLane 11 = .ok (.iconst 0, 1) := by decide +kernel
theorem dX1_strikeLane_12 : decode cX1_strikeLane 12 = .ok (.ireturn, 1) := by decide +kernel
theorem dX1_strikeLane_13 : decode cX1_strikeLane 13 = .ok (.aload_n 0, 1) := by decide +kernel
theorem dX1_strikeLane_14 : decode cX1_strikeLane 14 = .ok (.getfield 15, 3) := by decide +kernel
theorem dX1_strikeLane_17 : decode cX1_strikeLane 17 = .ok (.iload_n 1, 1) := by decide +kernel
theorem dX1_strikeLane_18 : decode cX1_strikeLane 18 = .ok (.baload, 1) := by decide +kernel
theorem dX1_strikeLane_19 : decode cX1_strikeLane 19 = .ok (.ifCond .eq 8, 3) := by decide +kernel
theorem dX1_strikeLane_22 : decode cX1_strikeLane 22 = .ok (.bipush 10, 2) := by decide +kernel
theorem dX1_strikeLane_24 : decode cX1_strikeLane 24 = .ok (.goto 5, 3) := by decide +kernel
theorem dX1_strikeLane_27 : decode cX1_strikeLane 27 = .ok (.bipush 100, 2) := by decide +kernel
theorem dX1_strikeLane_29 : decode cX1_strikeLane 29 = .ok (.aload_n 0, 1) := by decide +kernel
theorem dX1_strikeLane_30 : decode cX1_strikeLane 30 = .ok (.getfield 9, 3) := by decide +kernel
theorem dX1_strikeLane_33 : decode cX1_strikeLane 33 = .ok (.imul, 1) := by decide +kernel
theorem dX1_strikeLane_34 : decode cX1_strikeLane 34 = .ok (.istore_n 2, 1) := by decide +kernel
theorem dX1_strikeLane_35 : decode cX1_strikeLane 35 = .ok (.aload_n 0, 1) := by decide +kernel
theorem dX1_strikeLane_36 : decode cX1_strikeLane 36 = .ok (.getfield 15, 3) := by decide +kernel
theorem dX1_strikeLane_39 : decode cX1_strikeLane 39 = .ok (.iload_n 1, 1) := by decide +kernel
theorem dX1_strikeLane_40 : decode cX1_strikeLane 40 = .ok (.iconst 1, 1) := by decide +kernel
theorem dX1_strikeLane_41 : decode cX1_strikeLane 41 = .ok (.bastore, 1) := by decide +kernel
theorem dX1_strikeLane_42 : decode cX1_strikeLane 42 = .ok (.aload_n 0, 1) := by decide +kernel
theorem dX1_strikeLane_43 : decode cX1_strikeLane 43 = .ok (.getfield 15, 3) := by decide +kernel
theorem dX1_strikeLane_46 : decode cX1_strikeLane 46 = .ok (.invokestatic 65, 3) := by decide +kernel
theorem dX1_strikeLane_49 : decode cX1_strikeLane 49 = .ok (.ifCond .eq 25, 3) := by decide +kernel
theorem dX1_strikeLane_52 : decode cX1_strikeLane 52 = .ok (.aload_n 0, 1) := by decide +kernel
theorem dX1_strikeLane_53 : decode cX1_strikeLane 53 = .ok (.getfield 15, 3) := by decide +kernel
theorem dX1_strikeLane_56 : decode cX1_strikeLane 56 = .ok (.invokestatic 26, 3) := by decide +kernel
theorem dX1_strikeLane_59 : decode cX1_strikeLane 59 = .ok (.aload_n 0, 1) := by decide +kernel
theorem dX1_strikeLane_60 : decode cX1_strikeLane 60 = .ok (.aload_n 0, 1) := by decide +kernel
theorem dX1_strikeLane_61 : decode cX1_strikeLane 61 = .ok (.getfield 9, 3) := by decide +kernel
theorem dX1_strikeLane_64 : decode cX1_strikeLane 64 = .ok (.iconst 1, 1) := by decide +kernel
theorem dX1_strikeLane_65 : decode cX1_strikeLane 65 = .ok (.iadd, 1) := by decide +kernel
theorem dX1_strikeLane_66 : decode cX1_strikeLane 66 = .ok (.bipush 6, 2) := by decide +kernel
theorem dX1_strikeLane_68 : decode cX1_strikeLane 68 = .ok (.invokestatic 69, 3) := by decide +kernel
theorem dX1_strikeLane_71 : decode cX1_strikeLane 71 = .ok (.putfield 9, 3) := by decide +kernel
theorem dX1_strikeLane_74 : decode cX1_strikeLane 74 = .ok (.iload_n 2, 1) := by decide +kernel
theorem dX1_strikeLane_75 : decode cX1_strikeLane 75 = .ok (.ireturn, 1) := by decide +kernel
theorem dX1_strikeBumper_0 : decode cX1_strikeBumper 0 = .ok (.aload_n 0, 1) := by decide +kernel
theorem dX1_strikeBumper_1 : decode cX1_strikeBumper 1 = .ok (.invokevirtual 62, 3) := by decide +kernel
theorem dX1_strikeBumper_4 : decode cX1_strikeBumper 4 = .ok (.aload_n 0, 1) := by decide +kernel
theorem dX1_strikeBumper_5 : decode cX1_strikeBumper 5 = .ok (.getfield 45, 3) := by decide +kernel
theorem dX1_strikeBumper_8 : decode cX1_strikeBumper 8 = .ok (.ifCond .eq 5, 3) := by decide +kernel
theorem dX1_strikeBumper_11 : decode cX1_strikeBumper 11 = .ok (.iconst 0, 1) := by decide +kernel
theorem dX1_strikeBumper_12 : decode cX1_strikeBumper 12 = .ok (.ireturn, 1) := by decide +kernel
theorem dX1_strikeBumper_13 : decode cX1_strikeBumper 13 = .ok (.aload_n 0, 1) := by decide +kernel
theorem dX1_strikeBumper_14 : decode cX1_strikeBumper 14 = .ok (.getfield 19, 3) := by decide +kernel
theorem dX1_strikeBumper_17 : decode cX1_strikeBumper 17 = .ok (.iload_n 1, 1) := by decide +kernel
theorem dX1_strikeBumper_18 : decode cX1_strikeBumper 18 = .ok (.iaload, 1) := by decide +kernel
theorem dX1_strikeBumper_19 : decode cX1_strikeBumper 19 = .ok (.istore_n 2, 1) := by decide +kernel
theorem dX1_strikeBumper_20 : decode cX1_strikeBumper 20 = .ok (.aload_n 0, 1) := by decide +kernel
theorem dX1_strikeBumper_21 : decode cX1_strikeBumper 21 = .ok (.getfield 19, 3) := by decide +kernel
theorem dX1_strikeBumper_24 : decode cX1_strikeBumper 24 = .ok (.iload_n 1, 1) := by decide +kernel
theorem dX1_strikeBumper_25 : decode cX1_strikeBumper 25 = .ok (.iload_n 2, 1) := by decide +kernel
theorem dX1_strikeBumper_26 : decode cX1_strikeBumper 26 = .ok (.bipush 10, 2) := by decide +kernel
theorem dX1_strikeBumper_28 : decode cX1_strikeBumper 28 = .ok (.iadd, 1) := by decide +kernel
theorem dX1_strikeBumper_29 : decode cX1_strikeBumper 29 = .ok (.sipush 200, 3) := by decide +kernel
theorem dX1_strikeBumper_32 : decode cX1_strikeBumper 32 = .ok (.invokestatic 69, 3) := by decide +kernel
theorem dX1_strikeBumper_35 : decode cX1_strikeBumper 35 = .ok (.iastore, 1) := by decide +kernel
theorem dX1_strikeBumper_36 : decode cX1_strikeBumper 36 = .ok (.iload_n 2, 1) := by decide +kernel
theorem dX1_strikeBumper_37 : decode cX1_strikeBumper 37 = .ok (.aload_n 0, 1) := by decide +kernel
theorem dX1_strikeBumper_38 : decode cX1_strikeBumper 38 = .ok (.getfield 9, 3) := by decide +kernel
theorem dX1_strikeBumper_41 : decode cX1_strikeBumper 41 = .ok (.imul, 1) := by decide +kernel
theorem dX1_strikeBumper_42 : decode cX1_strikeBumper 42 = .ok (.ireturn, 1) := by decide +kernel
theorem dX1_strikeTarget_0 : decode cX1_strikeTarget 0 = .ok (.aload_n 0, 1) := by decide +kernel
theorem dX1_strikeTarget_1 : decode cX1_strikeTarget 1 = .ok (.invokevirtual 62, 3) := by decide +kernel
theorem dX1_strikeTarget_4 : decode cX1_strikeTarget 4 = .ok (.aload_n 0, 1) := by decide +kernel
theorem dX1_strikeTarget_5 : decode cX1_strikeTarget 5 = .ok (.getfield 45, 3) := by decide +kernel
theorem dX1_strikeTarget_8 : decode cX1_strikeTarget 8 = .ok (.ifCond .eq 5, 3) := by decide +kernel
theorem dX1_strikeTarget_11 : decode cX1_strikeTarget 11 = .ok (.iconst 0, 1) := by decide +kernel
theorem dX1_strikeTarget_12 : decode cX1_strikeTarget 12 = .ok (.ireturn, 1) := by decide +kernel
theorem dX1_strikeTarget_13 : decode cX1_strikeTarget 13 = .ok (.aload_n 0, 1) := by decide +kernel
theorem dX1_strikeTarget_14 : decode cX1_strikeTarget 14 = .ok (.getfield 23, 3) := by decide +kernel
theorem dX1_strikeTarget_17 : decode cX1_strikeTarget 17 = .ok (.iload_n 1, 1) := by decide +kernel
theorem dX1_strikeTarget_18 : decode cX1_strikeTarget 18 = .ok (.baload, 1) := by decide +kernel
theorem dX1_strikeTarget_19 : decode cX1_strikeTarget 19 = .ok (.ifCond .eq 11, 3) := by decide +kernel
theorem dX1_strikeTarget_22 : decode cX1_strikeTarget 22 = .ok (.bipush 20, 2) := by decide +kernel
theorem dX1_strikeTarget_24 : decode cX1_strikeTarget 24 = .ok (.aload_n 0, 1) := by decide +kernel
theorem dX1_strikeTarget_25 : decode cX1_strikeTarget 25 = .ok (.getfield 9, 3) := by decide +kernel
theorem dX1_strikeTarget_28 : decode cX1_strikeTarget 28 = .ok (.imul, 1) := by decide +kernel
theorem dX1_strikeTarget_29 : decode cX1_strikeTarget 29 = .ok (.ireturn, 1) := by decide +kernel
theorem dX1_strikeTarget_30 : decode cX1_strikeTarget 30 = .ok (.aload_n 0, 1) := by decide +kernel
theorem dX1_strikeTarget_31 : decode cX1_strikeTarget 31 = .ok (.getfield 23, 3) := by decide +kernel
theorem dX1_strikeTarget_34 : decode cX1_strikeTarget 34 = .ok (.iload_n 1, 1) := by decide +kernel
theorem dX1_strikeTarget_35 : decode cX1_strikeTarget 35 = .ok (.iconst 1, 1) := by decide +kernel
theorem dX1_strikeTarget_36 : decode cX1_strikeTarget 36 = .ok (.bastore, 1) := by decide +kernel
theorem dX1_strikeTarget_37 : decode cX1_strikeTarget 37 = .ok (.aload_n 0, 1) := by decide +kernel
theorem dX1_strikeTarget_38 : decode cX1_strikeTarget 38 = .ok (.dup, 1) := by decide +kernel
theorem dX1_strikeTarget_39 : decode cX1_strikeTarget 39 = .ok (.getfield 33, 3) := by decide +kernel
theorem dX1_strikeTarget_42 : decode cX1_strikeTarget 42 = .ok (.iconst 1, 1) := by decide +kernel
theorem dX1_strikeTarget_43 : decode cX1_strikeTarget 43 = .ok (.iadd, 1) := by decide +kernel
theorem dX1_strikeTarget_44 : decode cX1_strikeTarget 44 = .ok (.putfield 33, 3) := by decide +kernel
theorem dX1_strikeTarget_47 : decode cX1_strikeTarget 47 = .ok (.aload_n 0, 1) := by decide +kernel
theorem dX1_strikeTarget_48 : decode cX1_strikeTarget 48 = .ok (.getfield 23, 3) := by decide +kernel
theorem dX1_strikeTarget_51 : decode cX1_strikeTarget 51 = .ok (.invokestatic 65, 3) := by decide +kernel
theorem dX1_strikeTarget_54 : decode cX1_strikeTarget 54 = .ok (.ifCond .eq 30, 3) := by decide +kernel
theorem dX1_strikeTarget_57 : decode cX1_strikeTarget 57 = .ok (.aload_n 0, 1) := by decide +kernel
theorem dX1_strikeTarget_58 : decode cX1_strikeTarget 58 = .ok (.getfield 23, 3) := by decide +kernel
theorem dX1_strikeTarget_61 : decode cX1_strikeTarget 61 = .ok (.invokestatic 26, 3) := by decide +kernel
theorem dX1_strikeTarget_64 : decode cX1_strikeTarget 64 = .ok (.aload_n 0, 1) := by decide +kernel
theorem dX1_strikeTarget_65 : decode cX1_strikeTarget 65 = .ok (.dup, 1) := by decide +kernel
theorem dX1_strikeTarget_66 : decode cX1_strikeTarget 66 = .ok (.getfield 33, 3) := by decide +kernel
theorem dX1_strikeTarget_69 : decode cX1_strikeTarget 69 = .ok (.iconst 3, 1) := by decide +kernel
theorem dX1_strikeTarget_70 : decode cX1_strikeTarget 70 = .ok (.iadd, 1) := by decide +kernel
theorem dX1_strikeTarget_71 : decode cX1_strikeTarget 71 = .ok (.putfield 33, 3) := by decide +kernel
theorem dX1_strikeTarget_74 : decode cX1_strikeTarget 74 = .ok (.aload_n 0, 1) := by decide +kernel
theorem dX1_strikeTarget_75 : decode cX1_strikeTarget 75 = .ok (.dup, 1) := by decide +kernel
theorem dX1_strikeTarget_76 : decode cX1_strikeTarget 76 = .ok (.getfield 30, 3) := by decide +kernel
theorem dX1_strikeTarget_79 : decode cX1_strikeTarget 79 = .ok (.iconst 1, 1) := by decide +kernel
theorem dX1_strikeTarget_80 : decode cX1_strikeTarget 80 = .ok (.iadd, 1) := by decide +kernel
theorem dX1_strikeTarget_81 : decode cX1_strikeTarget 81 = .ok (.putfield 30, 3) := by decide +kernel
theorem dX1_strikeTarget_84 : decode cX1_strikeTarget 84 = .ok (.sipush 200, 3) := by decide +kernel
theorem dX1_strikeTarget_87 : decode cX1_strikeTarget 87 = .ok (.aload_n 0, 1) := by decide +kernel
theorem dX1_strikeTarget_88 : decode cX1_strikeTarget 88 = .ok (.getfield 9, 3) := by decide +kernel
theorem dX1_strikeTarget_91 : decode cX1_strikeTarget 91 = .ok (.imul, 1) := by decide +kernel
theorem dX1_strikeTarget_92 : decode cX1_strikeTarget 92 = .ok (.ireturn, 1) := by decide +kernel
theorem dX1_countHit_0 : decode cX1_countHit 0 = .ok (.aload_n 0, 1) := by decide +kernel
theorem dX1_countHit_1 : decode cX1_countHit 1 = .ok (.dup, 1) := by decide +kernel
theorem dX1_countHit_2 : decode cX1_countHit 2 = .ok (.getfield 42, 3) := by decide +kernel
theorem dX1_countHit_5 : decode cX1_countHit 5 = .ok (.iconst 1, 1) := by decide +kernel
theorem dX1_countHit_6 : decode cX1_countHit 6 = .ok (.iadd, 1) := by decide +kernel
theorem dX1_countHit_7 : decode cX1_countHit 7 = .ok (.putfield 42, 3) := by decide +kernel
theorem dX1_countHit_10 : decode cX1_countHit 10 = .ok (.aload_n 0, 1) := by decide +kernel
theorem dX1_countHit_11 : decode cX1_countHit 11 = .ok (.getfield 45, 3) := by decide +kernel
theorem dX1_countHit_14 : decode cX1_countHit 14 = .ok (.ifCond .ne 17, 3) := by decide +kernel
theorem dX1_countHit_17 : decode cX1_countHit 17 = .ok (.aload_n 0, 1) := by decide +kernel
theorem dX1_countHit_18 : decode cX1_countHit 18 = .ok (.aload_n 0, 1) := by decide +kernel
theorem dX1_countHit_19 : decode cX1_countHit 19 = .ok (.getfield 36, 3) := by decide +kernel
theorem dX1_countHit_22 : decode cX1_countHit 22 = .ok (.iconst 1, 1) := by decide +kernel
theorem dX1_countHit_23 : decode cX1_countHit 23 = .ok (.isub, 1) := by decide +kernel
theorem dX1_countHit_24 : decode cX1_countHit 24 = .ok (.iconst 0, 1) := by decide +kernel
theorem dX1_countHit_25 : decode cX1_countHit 25 = .ok (.invokestatic 75, 3) := by decide +kernel
theorem dX1_countHit_28 : decode cX1_countHit 28 = .ok (.putfield 36, 3) := by decide +kernel
theorem dX1_countHit_31 : decode cX1_countHit 31 = .ok (.return_, 1) := by decide +kernel
theorem dX1_shake_0 : decode cX1_shake 0 = .ok (.aload_n 0, 1) := by decide +kernel
theorem dX1_shake_1 : decode cX1_shake 1 = .ok (.getfield 45, 3) := by decide +kernel
theorem dX1_shake_4 : decode cX1_shake 4 = .ok (.ifCond .eq 4, 3) := by decide +kernel
theorem dX1_shake_7 : decode cX1_shake 7 = .ok (.return_, 1) := by decide +kernel
theorem dX1_shake_8 : decode cX1_shake 8 = .ok (.aload_n 0, 1) := by decide +kernel
theorem dX1_shake_9 : decode cX1_shake 9 = .ok (.dup, 1) := by decide +kernel
theorem dX1_shake_10 : decode cX1_shake 10 = .ok (.getfield 36, 3) := by decide +kernel
theorem dX1_shake_13 : decode cX1_shake 13 = .ok (.iload_n 1, 1) := by decide +kernel
theorem dX1_shake_14 : decode cX1_shake 14 = .ok (.iadd, 1) := by decide +kernel
theorem dX1_shake_15 : decode cX1_shake 15 = .ok (.putfield 36, 3) := by decide +kernel
theorem dX1_shake_18 : decode cX1_shake 18 = .ok (.aload_n 0, 1) := by decide +kernel
theorem dX1_shake_19 : decode cX1_shake 19 = .ok (.getfield 36, 3) := by decide +kernel
theorem dX1_shake_22 : decode cX1_shake 22 = .ok (.iconst 5, 1) := by decide +kernel
theorem dX1_shake_23 : decode cX1_shake 23 = .ok (.if_icmp .lt 35, 3) := by decide +kernel
theorem dX1_shake_26 : decode cX1_shake 26 = .ok (.aload_n 0, 1) := by decide +kernel
theorem dX1_shake_27 : decode cX1_shake 27 = .ok (.iconst 0, 1) := by decide +kernel
theorem dX1_shake_28 : decode cX1_shake 28 = .ok (.putfield 36, 3) := by decide +kernel
theorem dX1_shake_31 : decode cX1_shake 31 = .ok (.aload_n 0, 1) := by decide +kernel
theorem dX1_shake_32 : decode cX1_shake 32 = .ok (.dup, 1) := by decide +kernel
theorem dX1_shake_33 : decode cX1_shake 33 = .ok (.getfield 39, 3) := by decide +kernel
theorem dX1_shake_36 : decode cX1_shake 36 = .ok (.iconst 1, 1) := by decide +kernel
theorem dX1_shake_37 : decode cX1_shake 37 = .ok (.iadd, 1) := by decide +kernel
theorem dX1_shake_38 : decode cX1_shake 38 = .ok (.putfield 39, 3) := by decide +kernel
theorem dX1_shake_41 : decode cX1_shake 41 = .ok (.aload_n 0, 1) := by decide +kernel
theorem dX1_shake_42 : decode cX1_shake 42 = .ok (.aload_n 0, 1) := by decide +kernel
theorem dX1_shake_43 : decode cX1_shake 43 = .ok (.getfield 39, 3) := by decide +kernel
theorem dX1_shake_46 : decode cX1_shake 46 = .ok (.iconst 3, 1) := by decide +kernel
theorem dX1_shake_47 : decode cX1_shake 47 = .ok (.if_icmp .lt 7, 3) := by decide +kernel
theorem dX1_shake_50 : decode cX1_shake 50 = .ok (.iconst 1, 1) := by decide +kernel
theorem dX1_shake_51 : decode cX1_shake 51 = .ok (.goto 4, 3) := by decide +kernel
theorem dX1_shake_54 : decode cX1_shake 54 = .ok (.iconst 0, 1) := by decide +kernel
theorem dX1_shake_55 : decode cX1_shake 55 = .ok (.putfield 45, 3) := by decide +kernel
theorem dX1_shake_58 : decode cX1_shake 58 = .ok (.return_, 1) := by decide +kernel
theorem dX1_canBeSaved_0 : decode cX1_canBeSaved 0 = .ok (.aload_n 0, 1) := by decide +kernel
theorem dX1_canBeSaved_1 : decode cX1_canBeSaved 1 = .ok (.getfield 45, 3) := by decide +kernel
theorem dX1_canBeSaved_4 : decode cX1_canBeSaved 4 = .ok (.ifCond .ne 22, 3) := by decide +kernel
theorem dX1_canBeSaved_7 : decode cX1_canBeSaved 7 = .ok (.aload_n 0, 1) := by decide +kernel
theorem dX1_canBeSaved_8 : decode cX1_canBeSaved 8 = .ok (.getfield 42, 3) := by decide +kernel
theorem dX1_canBeSaved_11 : decode cX1_canBeSaved 11 = .ok (.iconst 3, 1) := by decide +kernel
theorem dX1_canBeSaved_12 : decode cX1_canBeSaved 12 = .ok (.if_icmp .gt 14, 3) := by decide +kernel
theorem dX1_canBeSaved_15 : decode cX1_canBeSaved 15 = .ok (.aload_n 0, 1) := by decide +kernel
theorem dX1_canBeSaved_16 : decode cX1_canBeSaved 16 = .ok (.getfield 49, 3) := by decide +kernel
theorem dX1_canBeSaved_19 : decode cX1_canBeSaved 19 = .ok (.ifCond .ne 7, 3) := by decide +kernel
theorem dX1_canBeSaved_22 : decode cX1_canBeSaved 22 = .ok (.iconst 1, 1) := by decide +kernel
theorem dX1_canBeSaved_23 : decode cX1_canBeSaved 23 = .ok (.goto 4, 3) := by decide +kernel
theorem dX1_canBeSaved_26 : decode cX1_canBeSaved 26 = .ok (.iconst 0, 1) := by decide +kernel
theorem dX1_canBeSaved_27 : decode cX1_canBeSaved 27 = .ok (.ireturn, 1) := by decide +kernel
theorem dX1_bonusPoints_0 : decode cX1_bonusPoints 0 = .ok (.aload_n 0, 1) := by decide +kernel
theorem dX1_bonusPoints_1 : decode cX1_bonusPoints 1 = .ok (.getfield 45, 3) := by decide +kernel
theorem dX1_bonusPoints_4 : decode cX1_bonusPoints 4 = .ok (.ifCond .eq 7, 3) := by decide +kernel
theorem dX1_bonusPoints_7 : decode cX1_bonusPoints 7 = .ok (.iconst 0, 1) := by decide +kernel
theorem dX1_bonusPoints_8 : decode cX1_bonusPoints 8 = .ok (.goto 15, 3) := by decide +kernel
theorem dX1_bonusPoints_11 : decode cX1_bonusPoints 11 = .ok (.bipush 100, 2) := by decide +kernel
theorem dX1_bonusPoints_13 : decode cX1_bonusPoints 13 = .ok (.aload_n 0, 1) := by decide +kernel
theorem dX1_bonusPoints_14 : decode cX1_bonusPoints 14 = .ok (.getfield 33, 3) := by decide +kernel
theorem dX1_bonusPoints_17 : decode cX1_bonusPoints 17 = .ok (.imul, 1) := by decide +kernel
theorem dX1_bonusPoints_18 : decode cX1_bonusPoints 18 = .ok (.aload_n 0, 1) := by decide +kernel
theorem dX1_bonusPoints_19 : decode cX1_bonusPoints 19 = .ok (.getfield 9, 3) := by decide +kernel
theorem dX1_bonusPoints_22 : decode cX1_bonusPoints 22 = .ok (.imul, 1) := by decide +kernel
theorem dX1_bonusPoints_23 : decode cX1_bonusPoints 23 = .ok (.ireturn, 1) := by decide +kernel
theorem dX1_countedLanes_0 : decode cX1_countedLanes 0 = .ok (.aload_n 0, 1) := by decide +kernel
theorem dX1_countedLanes_1 : decode cX1_countedLanes 1 = .ok (.getfield 45, 3) := by decide +kernel
theorem dX1_countedLanes_4 : decode cX1_countedLanes 4 = .ok (.ifCond .eq 5, 3) := by decide +kernel
theorem dX1_countedLanes_7 : decode cX1_countedLanes 7 = .ok (.iconst 0, 1) := by decide +kernel
theorem dX1_countedLanes_8 : decode cX1_countedLanes 8 = .ok (.ireturn, 1) := by decide +kernel
theorem dX1_countedLanes_9 : decode cX1_countedLanes 9 = .ok (.iconst 0, 1) := by decide +kernel
theorem dX1_countedLanes_10 : decode cX1_countedLanes 10 = .ok (.istore_n 1, 1) := by decide +kernel
theorem dX1_countedLanes_11 : decode cX1_countedLanes 11 = .ok (.aload_n 0, 1) := by decide +kernel
theorem dX1_countedLanes_12 : decode cX1_countedLanes 12 = .ok (.getfield 15, 3) := by decide +kernel
theorem dX1_countedLanes_15 : decode cX1_countedLanes 15 = .ok (.astore_n 2, 1) := by decide +kernel
theorem dX1_countedLanes_16 : decode cX1_countedLanes 16 = .ok (.aload_n 2, 1) := by decide +kernel
theorem dX1_countedLanes_17 : decode cX1_countedLanes 17 = .ok (.arraylength, 1) := by decide +kernel
theorem dX1_countedLanes_18 : decode cX1_countedLanes 18 = .ok (.istore_n 3, 1) := by decide +kernel
theorem dX1_countedLanes_19 : decode cX1_countedLanes 19 = .ok (.iconst 0, 1) := by decide +kernel
theorem dX1_countedLanes_20 : decode cX1_countedLanes 20 = .ok (.istore 4, 2) := by decide +kernel
theorem dX1_countedLanes_22 : decode cX1_countedLanes 22 = .ok (.iload 4, 2) := by decide +kernel
theorem dX1_countedLanes_24 : decode cX1_countedLanes 24 = .ok (.iload_n 3, 1) := by decide +kernel
theorem dX1_countedLanes_25 : decode cX1_countedLanes 25 = .ok (.if_icmp .ge 23, 3) := by decide +kernel
theorem dX1_countedLanes_28 : decode cX1_countedLanes 28 = .ok (.aload_n 2, 1) := by decide +kernel
theorem dX1_countedLanes_29 : decode cX1_countedLanes 29 = .ok (.iload 4, 2) := by decide +kernel
theorem dX1_countedLanes_31 : decode cX1_countedLanes 31 = .ok (.baload, 1) := by decide +kernel
theorem dX1_countedLanes_32 : decode cX1_countedLanes 32 = .ok (.istore 5, 2) := by decide +kernel
theorem dX1_countedLanes_34 : decode cX1_countedLanes 34 = .ok (.iload 5, 2) := by decide +kernel
theorem dX1_countedLanes_36 : decode cX1_countedLanes 36 = .ok (.ifCond .ne 6, 3) := by decide +kernel
theorem dX1_countedLanes_39 : decode cX1_countedLanes 39 = .ok (.iinc 1 1, 3) := by decide +kernel
theorem dX1_countedLanes_42 : decode cX1_countedLanes 42 = .ok (.iinc 4 1, 3) := by decide +kernel
theorem dX1_countedLanes_45 : decode cX1_countedLanes 45 = .ok (.goto (-23), 3) := by decide +kernel
theorem dX1_countedLanes_48 : decode cX1_countedLanes 48 = .ok (.iload_n 1, 1) := by decide +kernel
theorem dX1_countedLanes_49 : decode cX1_countedLanes 49 = .ok (.bipush 100, 2) := by decide +kernel
theorem dX1_countedLanes_51 : decode cX1_countedLanes 51 = .ok (.imul, 1) := by decide +kernel
theorem dX1_countedLanes_52 : decode cX1_countedLanes 52 = .ok (.aload_n 0, 1) := by decide +kernel
theorem dX1_countedLanes_53 : decode cX1_countedLanes 53 = .ok (.getfield 9, 3) := by decide +kernel
theorem dX1_countedLanes_56 : decode cX1_countedLanes 56 = .ok (.imul, 1) := by decide +kernel
theorem dX1_countedLanes_57 : decode cX1_countedLanes 57 = .ok (.ireturn, 1) := by decide +kernel
theorem dX1_bumperSeries_0 : decode cX1_bumperSeries 0 = .ok (.aload_n 0, 1) := by decide +kernel
theorem dX1_bumperSeries_1 : decode cX1_bumperSeries 1 = .ok (.getfield 45, 3) := by decide +kernel
theorem dX1_bumperSeries_4 : decode cX1_bumperSeries 4 = .ok (.ifCond .eq 5, 3) := by decide +kernel
theorem dX1_bumperSeries_7 : decode cX1_bumperSeries 7 = .ok (.iconst 0, 1) := by decide +kernel
theorem dX1_bumperSeries_8 : decode cX1_bumperSeries 8 = .ok (.ireturn, 1) := by decide +kernel
theorem dX1_bumperSeries_9 : decode cX1_bumperSeries 9 = .ok (.aload_n 0, 1) := by decide +kernel
theorem dX1_bumperSeries_10 : decode cX1_bumperSeries 10 = .ok (.getfield 19, 3) := by decide +kernel
theorem dX1_bumperSeries_13 : decode cX1_bumperSeries 13 = .ok (.iload_n 1, 1) := by decide +kernel
theorem dX1_bumperSeries_14 : decode cX1_bumperSeries 14 = .ok (.iaload, 1) := by decide +kernel
theorem dX1_bumperSeries_15 : decode cX1_bumperSeries 15 = .ok (.istore_n 3, 1) := by decide +kernel
theorem dX1_bumperSeries_16 : decode cX1_bumperSeries 16 = .ok (.iload_n 2, 1) := by decide +kernel
theorem dX1_bumperSeries_17 : decode cX1_bumperSeries 17 = .ok (.sipush 200, 3) := by decide +kernel
theorem dX1_bumperSeries_20 : decode cX1_bumperSeries 20 = .ok (.iload_n 3, 1) := by decide +kernel
theorem dX1_bumperSeries_21 : decode cX1_bumperSeries 21 = .ok (.isub, 1) := by decide +kernel
theorem dX1_bumperSeries_22 : decode cX1_bumperSeries 22 = .ok (.bipush 10, 2) := by decide +kernel
theorem dX1_bumperSeries_24 : decode cX1_bumperSeries 24 = .ok (.idiv, 1) := by decide +kernel
theorem dX1_bumperSeries_25 : decode cX1_bumperSeries 25 = .ok (.invokestatic 69, 3) := by decide +kernel
theorem dX1_bumperSeries_28 : decode cX1_bumperSeries 28 = .ok (.istore 4, 2) := by decide +kernel
theorem dX1_bumperSeries_30 : decode cX1_bumperSeries 30 = .ok (.iload 4, 2) := by decide +kernel
theorem dX1_bumperSeries_32 : decode cX1_bumperSeries 32 = .ok (.iload_n 3, 1) := by decide +kernel
theorem dX1_bumperSeries_33 : decode cX1_bumperSeries 33 = .ok (.imul, 1) := by decide +kernel
theorem dX1_bumperSeries_34 : decode cX1_bumperSeries 34 = .ok (.bipush 10, 2) := by decide +kernel
theorem dX1_bumperSeries_36 : decode cX1_bumperSeries 36 = .ok (.iload 4, 2) := by decide +kernel
theorem dX1_bumperSeries_38 : decode cX1_bumperSeries 38 = .ok (.iload 4, 2) := by decide +kernel
theorem dX1_bumperSeries_40 : decode cX1_bumperSeries 40 = .ok (.iconst 1, 1) := by decide +kernel
theorem dX1_bumperSeries_41 : decode cX1_bumperSeries 41 = .ok (.isub, 1) := by decide +kernel
theorem dX1_bumperSeries_42 : decode cX1_bumperSeries 42 = .ok (.imul, 1) := by decide +kernel
theorem dX1_bumperSeries_43 : decode cX1_bumperSeries 43 = .ok (.iconst 2, 1) := by decide +kernel
theorem dX1_bumperSeries_44 : decode cX1_bumperSeries 44 = .ok (.idiv, 1) := by decide +kernel
theorem dX1_bumperSeries_45 : decode cX1_bumperSeries 45 = .ok (.imul, 1) := by decide +kernel
theorem dX1_bumperSeries_46 : decode cX1_bumperSeries 46 = .ok (.iadd, 1) := by decide +kernel
theorem dX1_bumperSeries_47 : decode cX1_bumperSeries 47 = .ok (.istore 5, 2) := by decide +kernel
theorem dX1_bumperSeries_49 : decode cX1_bumperSeries 49 = .ok (.iload 5, 2) := by decide +kernel
theorem dX1_bumperSeries_51 : decode cX1_bumperSeries 51 = .ok (.iload_n 2, 1) := by decide +kernel
theorem dX1_bumperSeries_52 : decode cX1_bumperSeries 52 = .ok (.iload 4, 2) := by decide +kernel
theorem dX1_bumperSeries_54 : decode cX1_bumperSeries 54 = .ok (.isub, 1) := by decide +kernel
theorem dX1_bumperSeries_55 : decode cX1_bumperSeries 55 = .ok (.sipush 200, 3) := by decide +kernel
theorem dX1_bumperSeries_58 : decode cX1_bumperSeries 58 = .ok (.imul, 1) := by decide +kernel
theorem dX1_bumperSeries_59 : decode cX1_bumperSeries 59 = .ok (.iadd, 1) := by decide +kernel
theorem dX1_bumperSeries_60 : decode cX1_bumperSeries 60 = .ok (.aload_n 0, 1) := by decide +kernel
theorem dX1_bumperSeries_61 : decode cX1_bumperSeries 61 = .ok (.getfield 9, 3) := by decide +kernel
theorem dX1_bumperSeries_64 : decode cX1_bumperSeries 64 = .ok (.imul, 1) := by decide +kernel
theorem dX1_bumperSeries_65 : decode cX1_bumperSeries 65 = .ok (.ireturn, 1) := by decide +kernel
theorem dX1_describe_0 : decode cX1_describe 0 = .ok (.aload_n 1, 1) := by decide +kernel
theorem dX1_describe_1 : decode cX1_describe 1 = .ok (.bipush 120, 2) := by decide +kernel
theorem dX1_describe_3 : decode cX1_describe 3 = .ok (.invokevirtual 78, 3) := by decide +kernel
theorem dX1_describe_6 : decode cX1_describe 6 = .ok (.pop, 1) := by decide +kernel
theorem dX1_describe_7 : decode cX1_describe 7 = .ok (.aload_n 1, 1) := by decide +kernel
theorem dX1_describe_8 : decode cX1_describe 8 = .ok (.aload_n 0, 1) := by decide +kernel
theorem dX1_describe_9 : decode cX1_describe 9 = .ok (.getfield 9, 3) := by decide +kernel
theorem dX1_describe_12 : decode cX1_describe 12 = .ok (.invokevirtual 84, 3) := by decide +kernel
theorem dX1_describe_15 : decode cX1_describe 15 = .ok (.pop, 1) := by decide +kernel
theorem dX1_describe_16 : decode cX1_describe 16 = .ok (.aload_n 1, 1) := by decide +kernel
theorem dX1_describe_17 : decode cX1_describe 17 = .ok (.bipush 32, 2) := by decide +kernel
theorem dX1_describe_19 : decode cX1_describe 19 = .ok (.invokevirtual 78, 3) := by decide +kernel
theorem dX1_describe_22 : decode cX1_describe 22 = .ok (.pop, 1) := by decide +kernel
theorem dX1_describe_23 : decode cX1_describe 23 = .ok (.aload_n 0, 1) := by decide +kernel
theorem dX1_describe_24 : decode cX1_describe 24 = .ok (.getfield 15, 3) := by decide +kernel
theorem dX1_describe_27 : decode cX1_describe 27 = .ok (.astore_n 2, 1) := by decide +kernel
theorem dX1_describe_28 : decode cX1_describe 28 = .ok (.aload_n 2, 1) := by decide +kernel
theorem dX1_describe_29 : decode cX1_describe 29 = .ok (.arraylength, 1) := by decide +kernel
theorem dX1_describe_30 : decode cX1_describe 30 = .ok (.istore_n 3, 1) := by decide +kernel
theorem dX1_describe_31 : decode cX1_describe 31 = .ok (.iconst 0, 1) := by decide +kernel
theorem dX1_describe_32 : decode cX1_describe 32 = .ok (.istore 4, 2) := by decide +kernel
theorem dX1_describe_34 : decode cX1_describe 34 = .ok (.iload 4, 2) := by decide +kernel
theorem dX1_describe_36 : decode cX1_describe 36 = .ok (.iload_n 3, 1) := by decide +kernel
theorem dX1_describe_37 : decode cX1_describe 37 = .ok (.if_icmp .ge 32, 3) := by decide +kernel
theorem dX1_describe_40 : decode cX1_describe 40 = .ok (.aload_n 2, 1) := by decide +kernel
theorem dX1_describe_41 : decode cX1_describe 41 = .ok (.iload 4, 2) := by decide +kernel
theorem dX1_describe_43 : decode cX1_describe 43 = .ok (.baload, 1) := by decide +kernel
theorem dX1_describe_44 : decode cX1_describe 44 = .ok (.istore 5, 2) := by decide +kernel
theorem dX1_describe_46 : decode cX1_describe 46 = .ok (.aload_n 1, 1) := by decide +kernel
theorem dX1_describe_47 : decode cX1_describe 47 = .ok (.iload 5, 2) := by decide +kernel
theorem dX1_describe_49 : decode cX1_describe 49 = .ok (.ifCond .eq 8, 3) := by decide +kernel
theorem dX1_describe_52 : decode cX1_describe 52 = .ok (.bipush 42, 2) := by decide +kernel
theorem dX1_describe_54 : decode cX1_describe 54 = .ok (.goto 5, 3) := by decide +kernel
theorem dX1_describe_57 : decode cX1_describe 57 = .ok (.bipush 46, 2) := by decide +kernel
theorem dX1_describe_59 : decode cX1_describe 59 = .ok (.invokevirtual 78, 3) := by decide +kernel
theorem dX1_describe_62 : decode cX1_describe 62 = .ok (.pop, 1) := by decide +kernel
theorem dX1_describe_63 : decode cX1_describe 63 = .ok (.iinc 4 1, 3) := by decide +kernel
theorem dX1_describe_66 : decode cX1_describe 66 = .ok (.goto (-32), 3) := by decide +kernel
theorem dX1_describe_69 : decode cX1_describe 69 = .ok (.aload_n 1, 1) := by decide +kernel
theorem dX1_describe_70 : decode cX1_describe 70 = .ok (.bipush 32, 2) := by decide +kernel
theorem dX1_describe_72 : decode cX1_describe 72 = .ok (.invokevirtual 78, 3) := by decide +kernel
theorem dX1_describe_75 : decode cX1_describe 75 = .ok (.pop, 1) := by decide +kernel
theorem dX1_describe_76 : decode cX1_describe 76 = .ok (.aload_n 0, 1) := by decide +kernel
theorem dX1_describe_77 : decode cX1_describe 77 = .ok (.getfield 23, 3) := by decide +kernel
theorem dX1_describe_80 : decode cX1_describe 80 = .ok (.astore_n 2, 1) := by decide +kernel
theorem dX1_describe_81 : decode cX1_describe 81 = .ok (.aload_n 2, 1) := by decide +kernel
theorem dX1_describe_82 : decode cX1_describe 82 = .ok (.arraylength, 1) := by decide +kernel
theorem dX1_describe_83 : decode cX1_describe 83 = .ok (.istore_n 3, 1) := by decide +kernel
theorem dX1_describe_84 : decode cX1_describe 84 = .ok (.iconst 0, 1) := by decide +kernel
theorem dX1_describe_85 : decode cX1_describe 85 = .ok (.istore 4, 2) := by decide +kernel
theorem dX1_describe_87 : decode cX1_describe 87 = .ok (.iload 4, 2) := by decide +kernel
theorem dX1_describe_89 : decode cX1_describe 89 = .ok (.iload_n 3, 1) := by decide +kernel
theorem dX1_describe_90 : decode cX1_describe 90 = .ok (.if_icmp .ge 32, 3) := by decide +kernel
theorem dX1_describe_93 : decode cX1_describe 93 = .ok (.aload_n 2, 1) := by decide +kernel
theorem dX1_describe_94 : decode cX1_describe 94 = .ok (.iload 4, 2) := by decide +kernel
theorem dX1_describe_96 : decode cX1_describe 96 = .ok (.baload, 1) := by decide +kernel
theorem dX1_describe_97 : decode cX1_describe 97 = .ok (.istore 5, 2) := by decide +kernel
theorem dX1_describe_99 : decode cX1_describe 99 = .ok (.aload_n 1, 1) := by decide +kernel
theorem dX1_describe_100 : decode cX1_describe 100 = .ok (.iload 5, 2) := by decide +kernel
theorem dX1_describe_102 : decode cX1_describe 102 = .ok (.ifCond .eq 8, 3) := by decide +kernel
theorem dX1_describe_105 : decode cX1_describe 105 = .ok (.bipush 95, 2) := by decide +kernel
theorem dX1_describe_107 : decode cX1_describe 107 = .ok (.goto 5, 3) := by decide +kernel
theorem dX1_describe_110 : decode cX1_describe 110 = .ok (.bipush 124, 2) := by decide +kernel
theorem dX1_describe_112 : decode cX1_describe 112 = .ok (.invokevirtual 78, 3) := by decide +kernel
theorem dX1_describe_115 : decode cX1_describe 115 = .ok (.pop, 1) := by decide +kernel
theorem dX1_describe_116 : decode cX1_describe 116 = .ok (.iinc 4 1, 3) := by decide +kernel
theorem dX1_describe_119 : decode cX1_describe 119 = .ok (.goto (-32), 3) := by decide +kernel
theorem dX1_describe_122 : decode cX1_describe 122 = .ok (.iconst 0, 1) := by decide +kernel
theorem dX1_describe_123 : decode cX1_describe 123 = .ok (.istore_n 2, 1) := by decide +kernel
theorem dX1_describe_124 : decode cX1_describe 124 = .ok (.iload_n 2, 1) := by decide +kernel
theorem dX1_describe_125 : decode cX1_describe 125 = .ok (.aload_n 0, 1) := by decide +kernel
theorem dX1_describe_126 : decode cX1_describe 126 = .ok (.getfield 39, 3) := by decide +kernel
theorem dX1_describe_129 : decode cX1_describe 129 = .ok (.if_icmp .ge 16, 3) := by decide +kernel
theorem dX1_describe_132 : decode cX1_describe 132 = .ok (.aload_n 1, 1) := by decide +kernel
theorem dX1_describe_133 : decode cX1_describe 133 = .ok (.bipush 33, 2) := by decide +kernel
theorem dX1_describe_135 : decode cX1_describe 135 = .ok (.invokevirtual 78, 3) := by decide +kernel
theorem dX1_describe_138 : decode cX1_describe 138 = .ok (.pop, 1) := by decide +kernel
theorem dX1_describe_139 : decode cX1_describe 139 = .ok (.iinc 2 1, 3) := by decide +kernel
theorem dX1_describe_142 : decode cX1_describe 142 = .ok (.goto (-18), 3) := by decide +kernel
theorem dX1_describe_145 : decode cX1_describe 145 = .ok (.aload_n 0, 1) := by decide +kernel
theorem dX1_describe_146 : decode cX1_describe 146 = .ok (.getfield 45, 3) := by decide +kernel
theorem dX1_describe_149 : decode cX1_describe 149 = .ok (.ifCond .eq 10, 3) := by decide +kernel
theorem dX1_describe_152 : decode cX1_describe 152 = .ok (.aload_n 1, 1) := by decide +kernel
theorem dX1_describe_153 : decode cX1_describe 153 = .ok (.bipush 84, 2) := by decide +kernel
theorem dX1_describe_155 : decode cX1_describe 155 = .ok (.invokevirtual 78, 3) := by decide +kernel
theorem dX1_describe_158 : decode cX1_describe 158 = .ok (.pop, 1) := by decide +kernel
theorem dX1_describe_159 : decode cX1_describe 159 = .ok (.return_, 1) := by decide +kernel
theorem dX3_init_0 : decode cX3_init 0 = .ok (.aload_n 0, 1) := by decide +kernel
theorem dX3_init_1 : decode cX3_init 1 = .ok (.invokespecial 3, 3) := by decide +kernel
theorem dX3_init_4 : decode cX3_init 4 = .ok (.aload_n 0, 1) := by decide +kernel
theorem dX3_init_5 : decode cX3_init 5 = .ok (.bipush 9, 2) := by decide +kernel
theorem dX3_init_7 : decode cX3_init 7 = .ok (.anewarray 11, 3) := by decide +kernel
theorem dX3_init_10 : decode cX3_init 10 = .ok (.putfield 13, 3) := by decide +kernel
theorem dX3_init_13 : decode cX3_init 13 = .ok (.iconst 0, 1) := by decide +kernel
theorem dX3_init_14 : decode cX3_init 14 = .ok (.istore_n 1, 1) := by decide +kernel
theorem dX3_init_15 : decode cX3_init 15 = .ok (.iload_n 1, 1) := by decide +kernel
theorem dX3_init_16 : decode cX3_init 16 = .ok (.bipush 9, 2) := by decide +kernel
theorem dX3_init_18 : decode cX3_init 18 = .ok (.if_icmp .ge 22, 3) := by decide +kernel
theorem dX3_init_21 : decode cX3_init 21 = .ok (.aload_n 0, 1) := by decide +kernel
theorem dX3_init_22 : decode cX3_init 22 = .ok (.getfield 13, 3) := by decide +kernel
theorem dX3_init_25 : decode cX3_init 25 = .ok (.iload_n 1, 1) := by decide +kernel
theorem dX3_init_26 : decode cX3_init 26 = .ok (.new 11, 3) := by decide +kernel
theorem dX3_init_29 : decode cX3_init 29 = .ok (.dup, 1) := by decide +kernel
theorem dX3_init_30 : decode cX3_init 30 = .ok (.invokespecial 17, 3) := by decide +kernel
theorem dX3_init_33 : decode cX3_init 33 = .ok (.aastore, 1) := by decide +kernel
theorem dX3_init_34 : decode cX3_init 34 = .ok (.iinc 1 1, 3) := by decide +kernel
theorem dX3_init_37 : decode cX3_init 37 = .ok (.goto (-22), 3) := by decide +kernel
theorem dX3_init_40 : decode cX3_init 40 = .ok (.return_, 1) := by decide +kernel
theorem dX3_hold_0 : decode cX3_hold 0 = .ok (.aload_n 0, 1) := by decide +kernel
theorem dX3_hold_1 : decode cX3_hold 1 = .ok (.getfield 13, 3) := by decide +kernel
theorem dX3_hold_4 : decode cX3_hold 4 = .ok (.aload_n 0, 1) := by decide +kernel
theorem dX3_hold_5 : decode cX3_hold 5 = .ok (.getfield 18, 3) := by decide +kernel
theorem dX3_hold_8 : decode cX3_hold 8 = .ok (.aaload, 1) := by decide +kernel
theorem dX3_hold_9 : decode cX3_hold 9 = .ok (.aload_n 1, 1) := by decide +kernel
theorem dX3_hold_10 : decode cX3_hold 10 = .ok (.invokevirtual 22, 3) := by decide +kernel
theorem dX3_hold_13 : decode cX3_hold 13 = .ok (.return_, 1) := by decide +kernel
theorem dX3_held_0 : decode cX3_held 0 = .ok (.aload_n 0, 1) := by decide +kernel
theorem dX3_held_1 : decode cX3_held 1 = .ok (.getfield 13, 3) := by decide +kernel
theorem dX3_held_4 : decode cX3_held 4 = .ok (.aload_n 0, 1) := by decide +kernel
theorem dX3_held_5 : decode cX3_held 5 = .ok (.getfield 18, 3) := by decide +kernel
theorem dX3_held_8 : decode cX3_held 8 = .ok (.aaload, 1) := by decide +kernel
theorem dX3_held_9 : decode cX3_held 9 = .ok (.areturn, 1) := by decide +kernel
theorem dX3_keepHeld_0 : decode cX3_keepHeld 0 = .ok (.aload_n 0, 1) := by decide +kernel
theorem dX3_keepHeld_1 : decode cX3_keepHeld 1 = .ok (.aload_n 0, 1) := by decide +kernel
theorem dX3_keepHeld_2 : decode cX3_keepHeld 2 = .ok (.getfield 18, 3) := by decide +kernel
theorem dX3_keepHeld_5 : decode cX3_keepHeld 5 = .ok (.iconst 1, 1) := by decide +kernel
theorem dX3_keepHeld_6 : decode cX3_keepHeld 6 = .ok (.iadd, 1) := by decide +kernel
theorem dX3_keepHeld_7 : decode cX3_keepHeld 7 = .ok (.bipush 9, 2) := by decide +kernel
theorem dX3_keepHeld_9 : decode cX3_keepHeld 9 = .ok (.irem, 1) := by decide +kernel
theorem dX3_keepHeld_10 : decode cX3_keepHeld 10 = .ok (.putfield 18, 3) := by decide +kernel
theorem dX3_keepHeld_13 : decode cX3_keepHeld 13 = .ok (.aload_n 0, 1) := by decide +kernel
theorem dX3_keepHeld_14 : decode cX3_keepHeld 14 = .ok (.aload_n 0, 1) := by decide +kernel
theorem dX3_keepHeld_15 : decode cX3_keepHeld 15 = .ok (.getfield 26, 3) := by decide +kernel
theorem dX3_keepHeld_18 : decode cX3_keepHeld 18 = .ok (.iconst 1, 1) := by decide +kernel
theorem dX3_keepHeld_19 : decode cX3_keepHeld 19 = .ok (.iadd, 1) := by decide +kernel
theorem dX3_keepHeld_20 : decode cX3_keepHeld 20 = .ok (.bipush 8, 2) := by decide +kernel
theorem dX3_keepHeld_22 : decode cX3_keepHeld 22 = .ok (.invokestatic 29, 3) := by decide +kernel
theorem dX3_keepHeld_25 : decode cX3_keepHeld 25 = .ok (.putfield 26, 3) := by decide +kernel
theorem dX3_keepHeld_28 : decode cX3_keepHeld 28 = .ok (.return_, 1) := by decide +kernel
theorem dX3_remember_0 : decode cX3_remember 0 = .ok (.aload_n 0, 1) := by decide +kernel
theorem dX3_remember_1 : decode cX3_remember 1 = .ok (.aload_n 1, 1) := by decide +kernel
theorem dX3_remember_2 : decode cX3_remember 2 = .ok (.invokevirtual 35, 3) := by decide +kernel
theorem dX3_remember_5 : decode cX3_remember 5 = .ok (.aload_n 0, 1) := by decide +kernel
theorem dX3_remember_6 : decode cX3_remember 6 = .ok (.invokevirtual 38, 3) := by decide +kernel
theorem dX3_remember_9 : decode cX3_remember 9 = .ok (.return_, 1) := by decide +kernel
theorem dX3_takeLatest_0 : decode cX3_takeLatest 0 = .ok (.aload_n 0, 1) := by decide +kernel
theorem dX3_takeLatest_1 : decode cX3_takeLatest 1 = .ok (.aload_n 0, 1) := by decide +kernel
theorem dX3_takeLatest_2 : decode cX3_takeLatest 2 = .ok (.getfield 18, 3) := by decide +kernel
theorem dX3_takeLatest_5 : decode cX3_takeLatest 5 = .ok (.bipush 9, 2) := by decide +kernel
theorem dX3_takeLatest_7 : decode cX3_takeLatest 7 = .ok (.iadd, 1) := by decide +kernel
theorem dX3_takeLatest_8 : decode cX3_takeLatest 8 = .ok (.iconst 1, 1) := by decide +kernel
theorem dX3_takeLatest_9 : decode cX3_takeLatest 9 = .ok (.isub, 1) := by decide +kernel
theorem dX3_takeLatest_10 : decode cX3_takeLatest 10 = .ok (.bipush 9, 2) := by decide +kernel
theorem dX3_takeLatest_12 : decode cX3_takeLatest 12 = .ok (.irem, 1) := by decide +kernel
theorem dX3_takeLatest_13 : decode cX3_takeLatest 13 = .ok (.putfield 18, 3) := by decide +kernel
theorem dX3_takeLatest_16 : decode cX3_takeLatest 16 = .ok (.aload_n 0, 1) := by decide +kernel
theorem dX3_takeLatest_17 : decode cX3_takeLatest 17 = .ok (.dup, 1) := by decide +kernel
theorem dX3_takeLatest_18 : decode cX3_takeLatest 18 = .ok (.getfield 26, 3) := by decide +kernel
theorem dX3_takeLatest_21 : decode cX3_takeLatest 21 = .ok (.iconst 1, 1) := by decide +kernel
theorem dX3_takeLatest_22 : decode cX3_takeLatest 22 = .ok (.isub, 1) := by decide +kernel
theorem dX3_takeLatest_23 : decode cX3_takeLatest 23 = .ok (.putfield 26, 3) := by decide +kernel
theorem dX3_takeLatest_26 : decode cX3_takeLatest 26 = .ok (.aload_n 0, 1) := by decide +kernel
theorem dX3_takeLatest_27 : decode cX3_takeLatest 27 = .ok (.getfield 13, 3) := by decide +kernel
theorem dX3_takeLatest_30 : decode cX3_takeLatest 30 = .ok (.aload_n 0, 1) := by decide +kernel
theorem dX3_takeLatest_31 : decode cX3_takeLatest 31 = .ok (.getfield 18, 3) := by decide +kernel
theorem dX3_takeLatest_34 : decode cX3_takeLatest 34 = .ok (.aaload, 1) := by decide +kernel
theorem dX3_takeLatest_35 : decode cX3_takeLatest 35 = .ok (.areturn, 1) := by decide +kernel
theorem dX4_init_0 : decode cX4_init 0 = .ok (.aload_n 0, 1) := by decide +kernel
theorem dX4_init_1 : decode cX4_init 1 = .ok (.invokespecial 3, 3) := by decide +kernel
theorem dX4_init_4 : decode cX4_init 4 = .ok (.aload_n 0, 1) := by decide +kernel
theorem dX4_init_5 : decode cX4_init 5 = .ok (.iconst 5, 1) := by decide +kernel
theorem dX4_init_6 : decode cX4_init 6 = .ok (.newarray .int, 2) := by decide +kernel
theorem dX4_init_8 : decode cX4_init 8 = .ok (.putfield 9, 3) := by decide +kernel
theorem dX4_init_11 : decode cX4_init 11 = .ok (.aload_n 0, 1) := by decide +kernel
theorem dX4_init_12 : decode cX4_init 12 = .ok (.iconst 5, 1) := by decide +kernel
theorem dX4_init_13 : decode cX4_init 13 = .ok (.newarray .int, 2) := by decide +kernel
theorem dX4_init_15 : decode cX4_init 15 = .ok (.putfield 15, 3) := by decide +kernel
theorem dX4_init_18 : decode cX4_init 18 = .ok (.aload_n 0, 1) := by decide +kernel
theorem dX4_init_19 : decode cX4_init 19 = .ok (.iconst 5, 1) := by decide +kernel
theorem dX4_init_20 : decode cX4_init 20 = .ok (.newarray .int, 2) := by decide +kernel
theorem dX4_init_22 : decode cX4_init 22 = .ok (.putfield 18, 3) := by decide +kernel
theorem dX4_init_25 : decode cX4_init 25 = .ok (.return_, 1) := by decide +kernel
theorem dX4_copyFrom_0 : decode cX4_copyFrom 0 = .ok (.aload_n 1, 1) := by decide +kernel
theorem dX4_copyFrom_1 : decode cX4_copyFrom 1 = .ok (.getfield 9, 3) := by decide +kernel
theorem dX4_copyFrom_4 : decode cX4_copyFrom 4 = .ok (.iconst 0, 1) := by decide +kernel
theorem dX4_copyFrom_5 : decode cX4_copyFrom 5 = .ok (.aload_n 0, 1) := by decide +kernel
theorem dX4_copyFrom_6 : decode cX4_copyFrom 6 = .ok (.getfield 9, 3) := by decide +kernel
theorem dX4_copyFrom_9 : decode cX4_copyFrom 9 = .ok (.iconst 0, 1) := by decide +kernel
theorem dX4_copyFrom_10 : decode cX4_copyFrom 10 = .ok (.iconst 5, 1) := by decide +kernel
theorem dX4_copyFrom_11 : decode cX4_copyFrom 11 = .ok (.invokestatic 21, 3) := by decide +kernel
theorem dX4_copyFrom_14 : decode cX4_copyFrom 14 = .ok (.aload_n 1, 1) := by decide +kernel
theorem dX4_copyFrom_15 : decode cX4_copyFrom 15 = .ok (.getfield 15, 3) := by decide +kernel
theorem dX4_copyFrom_18 : decode cX4_copyFrom 18 = .ok (.iconst 0, 1) := by decide +kernel
theorem dX4_copyFrom_19 : decode cX4_copyFrom 19 = .ok (.aload_n 0, 1) := by decide +kernel
theorem dX4_copyFrom_20 : decode cX4_copyFrom 20 = .ok (.getfield 15, 3) := by decide +kernel
theorem dX4_copyFrom_23 : decode cX4_copyFrom 23 = .ok (.iconst 0, 1) := by decide +kernel
theorem dX4_copyFrom_24 : decode cX4_copyFrom 24 = .ok (.iconst 5, 1) := by decide +kernel
theorem dX4_copyFrom_25 : decode cX4_copyFrom 25 = .ok (.invokestatic 21, 3) := by decide +kernel
theorem dX4_copyFrom_28 : decode cX4_copyFrom 28 = .ok (.aload_n 1, 1) := by decide +kernel
theorem dX4_copyFrom_29 : decode cX4_copyFrom 29 = .ok (.getfield 18, 3) := by decide +kernel
theorem dX4_copyFrom_32 : decode cX4_copyFrom 32 = .ok (.iconst 0, 1) := by decide +kernel
theorem dX4_copyFrom_33 : decode cX4_copyFrom 33 = .ok (.aload_n 0, 1) := by decide +kernel
theorem dX4_copyFrom_34 : decode cX4_copyFrom 34 = .ok (.getfield 18, 3) := by decide +kernel
theorem dX4_copyFrom_37 : decode cX4_copyFrom 37 = .ok (.iconst 0, 1) := by decide +kernel
theorem dX4_copyFrom_38 : decode cX4_copyFrom 38 = .ok (.iconst 5, 1) := by decide +kernel
theorem dX4_copyFrom_39 : decode cX4_copyFrom 39 = .ok (.invokestatic 21, 3) := by decide +kernel
theorem dX4_copyFrom_42 : decode cX4_copyFrom 42 = .ok (.aload_n 0, 1) := by decide +kernel
theorem dX4_copyFrom_43 : decode cX4_copyFrom 43 = .ok (.aload_n 1, 1) := by decide +kernel
theorem dX4_copyFrom_44 : decode cX4_copyFrom 44 = .ok (.getfield 27, 3) := by decide +kernel
theorem dX4_copyFrom_47 : decode cX4_copyFrom 47 = .ok (.putfield 27, 3) := by decide +kernel
theorem dX4_copyFrom_50 : decode cX4_copyFrom 50 = .ok (.return_, 1) := by decide +kernel
theorem dX4_enter_0 : decode cX4_enter 0 = .ok (.aload_n 0, 1) := by decide +kernel
theorem dX4_enter_1 : decode cX4_enter 1 = .ok (.getfield 27, 3) := by decide +kernel
theorem dX4_enter_4 : decode cX4_enter 4 = .ok (.istore 4, 2) := by decide +kernel
theorem dX4_enter_6 : decode cX4_enter 6 = .ok (.iload 4, 2) := by decide +kernel
theorem dX4_enter_8 : decode cX4_enter 8 = .ok (.ifCond .le 22, 3) := by decide +kernel
theorem dX4_enter_11 : decode cX4_enter 11 = .ok (.aload_n 0, 1) := by decide +kernel
theorem dX4_enter_12 : decode cX4_enter 12 = .ok (.getfield 9, 3) := by decide +kernel
theorem dX4_enter_15 : decode cX4_enter 15 = .ok (.iload 4, 2) := by decide +kernel
theorem dX4_enter_17 : decode cX4_enter 17 = .ok (.iconst 1, 1) := by decide +kernel
theorem dX4_enter_18 : decode cX4_enter 18 = .ok (.isub, 1) := by decide +kernel
theorem dX4_enter_19 : decode cX4_enter 19 = .ok (.iaload, 1) := by decide +kernel
theorem dX4_enter_20 : decode cX4_enter 20 = .ok (.iload_n 1, 1) := by decide +kernel
theorem dX4_enter_21 : decode cX4_enter 21 = .ok (.if_icmp .ge 9, 3) := by decide +kernel
theorem dX4_enter_24 : decode cX4_enter 24 = .ok (.iinc 4 (-1), 3) := by decide +kernel
theorem dX4_enter_27 : decode cX4_enter 27 = .ok (.goto (-21), 3) := by decide +kernel
theorem dX4_enter_30 : decode cX4_enter 30 = .ok (.iload 4, 2) := by decide +kernel
theorem dX4_enter_32 : decode cX4_enter 32 = .ok (.iconst 5, 1) := by decide +kernel
theorem dX4_enter_33 : decode cX4_enter 33 = .ok (.if_icmp .lt 4, 3) := by decide +kernel
theorem dX4_enter_36 : decode cX4_enter 36 = .ok (.return_, 1) := by decide +kernel
theorem dX4_enter_37 : decode cX4_enter 37 = .ok (.aload_n 0, 1) := by decide +kernel
theorem dX4_enter_38 : decode cX4_enter 38 = .ok (.aload_n 0, 1) := by decide +kernel
theorem dX4_enter_39 : decode cX4_enter 39 = .ok (.getfield 27, 3) := by decide +kernel
theorem dX4_enter_42 : decode cX4_enter 42 = .ok (.iconst 1, 1) := by decide +kernel
theorem dX4_enter_43 : decode cX4_enter 43 = .ok (.iadd, 1) := by decide +kernel
theorem dX4_enter_44 : decode cX4_enter 44 = .ok (.iconst 5, 1) := by decide +kernel
theorem dX4_enter_45 : decode cX4_enter 45 = .ok (.invokestatic 31, 3) := by decide +kernel
theorem dX4_enter_48 : decode cX4_enter 48 = .ok (.putfield 27, 3) := by decide +kernel
theorem dX4_enter_51 : decode cX4_enter 51 = .ok (.aload_n 0, 1) := by decide +kernel
theorem dX4_enter_52 : decode cX4_enter 52 = .ok (.getfield 27, 3) := by decide +kernel
theorem dX4_enter_55 : decode cX4_enter 55 = .ok (.iconst 1, 1) := by decide +kernel
theorem dX4_enter_56 : decode cX4_enter 56 = .ok (.isub, 1) := by decide +kernel
theorem dX4_enter_57 : decode cX4_enter 57 = .ok (.istore 5, 2) := by decide +kernel
theorem dX4_enter_59 : decode cX4_enter 59 = .ok (.iload 5, 2) := by decide +kernel
theorem dX4_enter_61 : decode cX4_enter 61 = .ok (.iload 4, 2) := by decide +kernel
theorem dX4_enter_63 : decode cX4_enter 63 = .ok (.if_icmp .le 57, 3) := by decide +kernel
theorem dX4_enter_66 : decode cX4_enter 66 = .ok (.aload_n 0, 1) := by decide +kernel
theorem dX4_enter_67 : decode cX4_enter 67 = .ok (.getfield 9, 3) := by decide +kernel
theorem dX4_enter_70 : decode cX4_enter 70 = .ok (.iload 5, 2) := by decide +kernel
theorem dX4_enter_72 : decode cX4_enter 72 = .ok (.aload_n 0, 1) := by decide +kernel
theorem dX4_enter_73 : decode cX4_enter 73 = .ok (.getfield 9, 3) := by decide +kernel
theorem dX4_enter_76 : decode cX4_enter 76 = .ok (.iload 5, 2) := by decide +kernel
theorem dX4_enter_78 : decode cX4_enter 78 = .ok (.iconst 1, 1) := by decide +kernel
theorem dX4_enter_79 : decode cX4_enter 79 = .ok (.isub, 1) := by decide +kernel
theorem dX4_enter_80 : decode cX4_enter 80 = .ok (.iaload, 1) := by decide +kernel
theorem dX4_enter_81 : decode cX4_enter 81 = .ok (.iastore, 1) := by decide +kernel
theorem dX4_enter_82 : decode cX4_enter 82 = .ok (.aload_n 0, 1) := by decide +kernel
theorem dX4_enter_83 : decode cX4_enter 83 = .ok (.getfield 15, 3) := by decide +kernel
theorem dX4_enter_86 : decode cX4_enter 86 = .ok (.iload 5, 2) := by decide +kernel
theorem dX4_enter_88 : decode cX4_enter 88 = .ok (.aload_n 0, 1) := by decide +kernel
theorem dX4_enter_89 : decode cX4_enter 89 = .ok (.getfield 15, 3) := by decide +kernel
theorem dX4_enter_92 : decode cX4_enter 92 = .ok (.iload 5, 2) := by decide +kernel
theorem dX4_enter_94 : decode cX4_enter 94 = .ok (.iconst 1, 1) := by decide +kernel
theorem dX4_enter_95 : decode cX4_enter 95 = .ok (.isub, 1) := by decide +kernel
theorem dX4_enter_96 : decode cX4_enter 96 = .ok (.iaload, 1) := by decide +kernel
theorem dX4_enter_97 : decode cX4_enter 97 = .ok (.iastore, 1) := by decide +kernel
theorem dX4_enter_98 : decode cX4_enter 98 = .ok (.aload_n 0, 1) := by decide +kernel
theorem dX4_enter_99 : decode cX4_enter 99 = .ok (.getfield 18, 3) := by decide +kernel
theorem dX4_enter_102 : decode cX4_enter 102 = .ok (.iload 5, 2) := by decide +kernel
theorem dX4_enter_104 : decode cX4_enter 104 = .ok (.aload_n 0, 1) := by decide +kernel
theorem dX4_enter_105 : decode cX4_enter 105 = .ok (.getfield 18, 3) := by decide +kernel
theorem dX4_enter_108 : decode cX4_enter 108 = .ok (.iload 5, 2) := by decide +kernel
theorem dX4_enter_110 : decode cX4_enter 110 = .ok (.iconst 1, 1) := by decide +kernel
theorem dX4_enter_111 : decode cX4_enter 111 = .ok (.isub, 1) := by decide +kernel
theorem dX4_enter_112 : decode cX4_enter 112 = .ok (.iaload, 1) := by decide +kernel
theorem dX4_enter_113 : decode cX4_enter 113 = .ok (.iastore, 1) := by decide +kernel
theorem dX4_enter_114 : decode cX4_enter 114 = .ok (.iinc 5 (-1), 3) := by decide +kernel
theorem dX4_enter_117 : decode cX4_enter 117 = .ok (.goto (-58), 3) := by decide +kernel
theorem dX4_enter_120 : decode cX4_enter 120 = .ok (.aload_n 0, 1) := by decide +kernel
theorem dX4_enter_121 : decode cX4_enter 121 = .ok (.getfield 9, 3) := by decide +kernel
theorem dX4_enter_124 : decode cX4_enter 124 = .ok (.iload 4, 2) := by decide +kernel
theorem dX4_enter_126 : decode cX4_enter 126 = .ok (.iload_n 1, 1) := by decide +kernel
theorem dX4_enter_127 : decode cX4_enter 127 = .ok (.iastore, 1) := by decide +kernel
theorem dX4_enter_128 : decode cX4_enter 128 = .ok (.aload_n 0, 1) := by decide +kernel
theorem dX4_enter_129 : decode cX4_enter 129 = .ok (.getfield 15, 3) := by decide +kernel
theorem dX4_enter_132 : decode cX4_enter 132 = .ok (.iload 4, 2) := by decide +kernel
theorem dX4_enter_134 : decode cX4_enter 134 = .ok (.iload_n 2, 1) := by decide +kernel
theorem dX4_enter_135 : decode cX4_enter 135 = .ok (.iastore, 1) := by decide +kernel
theorem dX4_enter_136 : decode cX4_enter 136 = .ok (.aload_n 0, 1) := by decide +kernel
theorem dX4_enter_137 : decode cX4_enter 137 = .ok (.getfield 18, 3) := by decide +kernel
theorem dX4_enter_140 : decode cX4_enter 140 = .ok (.iload 4, 2) := by decide +kernel
theorem dX4_enter_142 : decode cX4_enter 142 = .ok (.iload_n 3, 1) := by decide +kernel
theorem dX4_enter_143 : decode cX4_enter 143 = .ok (.iastore, 1) := by decide +kernel
theorem dX4_enter_144 : decode cX4_enter 144 = .ok (.return_, 1) := by decide +kernel
theorem dX4_areSorted_0 : decode cX4_areSorted 0 = .ok (.iconst 1, 1) := by decide +kernel
theorem dX4_areSorted_1 : decode cX4_areSorted 1 = .ok (.istore_n 1, 1) := by decide +kernel
theorem dX4_areSorted_2 : decode cX4_areSorted 2 = .ok (.iload_n 1, 1) := by decide +kernel
theorem dX4_areSorted_3 : decode cX4_areSorted 3 = .ok (.aload_n 0, 1) := by decide +kernel
theorem dX4_areSorted_4 : decode cX4_areSorted 4 = .ok (.getfield 27, 3) := by decide +kernel
theorem dX4_areSorted_7 : decode cX4_areSorted 7 = .ok (.if_icmp .ge 22, 3) := by decide +kernel
theorem dX4_areSorted_10 : decode cX4_areSorted 10 = .ok (.aload_n 0, 1) := by decide +kernel
theorem dX4_areSorted_11 : decode cX4_areSorted 11 = .ok (.iload_n 1, 1) := by decide +kernel
theorem dX4_areSorted_12 : decode cX4_areSorted 12 = .ok (.iconst 1, 1) := by decide +kernel
theorem dX4_areSorted_13 : decode cX4_areSorted 13 = .ok (.isub, 1) := by decide +kernel
theorem dX4_areSorted_14 : decode cX4_areSorted 14 = .ok (.iload_n 1, 1) := by decide +kernel
theorem dX4_areSorted_15 : decode cX4_areSorted 15 = .ok (.invokevirtual 37, 3) := by decide +kernel
theorem dX4_areSorted_18 : decode cX4_areSorted 18 = .ok (.ifCond .ne 5, 3) := by decide +kernel
theorem dX4_areSorted_21 : decode cX4_areSorted 21 = .ok (.iconst 0, 1) := by decide +kernel
theorem dX4_areSorted_22 : decode cX4_areSorted 22 = .ok (.ireturn, 1) := by decide +kernel
theorem dX4_areSorted_23 : decode cX4_areSorted 23 = .ok (.iinc 1 1, 3) := by decide +kernel
theorem dX4_areSorted_26 : decode cX4_areSorted 26 = .ok (.goto (-24), 3) := by decide +kernel
theorem dX4_areSorted_29 : decode cX4_areSorted 29 = .ok (.iconst 1, 1) := by decide +kernel
theorem dX4_areSorted_30 : decode cX4_areSorted 30 = .ok (.ireturn, 1) := by decide +kernel
theorem dX4_isBefore_0 : decode cX4_isBefore 0 = .ok (.aload_n 0, 1) := by decide +kernel
theorem dX4_isBefore_1 : decode cX4_isBefore 1 = .ok (.getfield 9, 3) := by decide +kernel
theorem dX4_isBefore_4 : decode cX4_isBefore 4 = .ok (.iload_n 1, 1) := by decide +kernel
theorem dX4_isBefore_5 : decode cX4_isBefore 5 = .ok (.iaload, 1) := by decide +kernel
theorem dX4_isBefore_6 : decode cX4_isBefore 6 = .ok (.aload_n 0, 1) := by decide +kernel
theorem dX4_isBefore_7 : decode cX4_isBefore 7 = .ok (.getfield 9, 3) := by decide +kernel
theorem dX4_isBefore_10 : decode cX4_isBefore 10 = .ok (.iload_n 2, 1) := by decide +kernel
theorem dX4_isBefore_11 : decode cX4_isBefore 11 = .ok (.iaload, 1) := by decide +kernel
theorem dX4_isBefore_12 : decode cX4_isBefore 12 = .ok (.if_icmp .eq 24, 3) := by decide +kernel
theorem dX4_isBefore_15 : decode cX4_isBefore 15 = .ok (.aload_n 0, 1) := by decide +kernel
theorem dX4_isBefore_16 : decode cX4_isBefore 16 = .ok (.getfield 9, 3) := by decide +kernel
theorem dX4_isBefore_19 : decode cX4_isBefore 19 = .ok (.iload_n 1, 1) := by decide +kernel
theorem dX4_isBefore_20 : decode cX4_isBefore 20 = .ok (.iaload, 1) := by decide +kernel
theorem dX4_isBefore_21 : decode cX4_isBefore 21 = .ok (.aload_n 0, 1) := by decide +kernel
theorem dX4_isBefore_22 : decode cX4_isBefore 22 = .ok (.getfield 9, 3) := by decide +kernel
theorem dX4_isBefore_25 : decode cX4_isBefore 25 = .ok (.iload_n 2, 1) := by decide +kernel
theorem dX4_isBefore_26 : decode cX4_isBefore 26 = .ok (.iaload, 1) := by decide +kernel
theorem dX4_isBefore_27 : decode cX4_isBefore 27 = .ok (.if_icmp .le 7, 3) := by decide +kernel
theorem dX4_isBefore_30 : decode cX4_isBefore 30 = .ok (.iconst 1, 1) := by decide +kernel
theorem dX4_isBefore_31 : decode cX4_isBefore 31 = .ok (.goto 4, 3) := by decide +kernel
theorem dX4_isBefore_34 : decode cX4_isBefore 34 = .ok (.iconst 0, 1) := by decide +kernel
theorem dX4_isBefore_35 : decode cX4_isBefore 35 = .ok (.ireturn, 1) := by decide +kernel
theorem dX4_isBefore_36 : decode cX4_isBefore 36 = .ok (.aload_n 0, 1) := by decide +kernel
theorem dX4_isBefore_37 : decode cX4_isBefore 37 = .ok (.getfield 18, 3) := by decide +kernel
theorem dX4_isBefore_40 : decode cX4_isBefore 40 = .ok (.iload_n 1, 1) := by decide +kernel
theorem dX4_isBefore_41 : decode cX4_isBefore 41 = .ok (.iaload, 1) := by decide +kernel
theorem dX4_isBefore_42 : decode cX4_isBefore 42 = .ok (.aload_n 0, 1) := by decide +kernel
theorem dX4_isBefore_43 : decode cX4_isBefore 43 = .ok (.getfield 18, 3) := by decide +kernel
theorem dX4_isBefore_46 : decode cX4_isBefore 46 = .ok (.iload_n 2, 1) := by decide +kernel
theorem dX4_isBefore_47 : decode cX4_isBefore 47 = .ok (.iaload, 1) := by decide +kernel
theorem dX4_isBefore_48 : decode cX4_isBefore 48 = .ok (.if_icmp .eq 24, 3) := by decide +kernel
theorem dX4_isBefore_51 : decode cX4_isBefore 51 = .ok (.aload_n 0, 1) := by decide +kernel
theorem dX4_isBefore_52 : decode cX4_isBefore 52 = .ok (.getfield 18, 3) := by decide +kernel
theorem dX4_isBefore_55 : decode cX4_isBefore 55 = .ok (.iload_n 1, 1) := by decide +kernel
theorem dX4_isBefore_56 : decode cX4_isBefore 56 = .ok (.iaload, 1) := by decide +kernel
theorem dX4_isBefore_57 : decode cX4_isBefore 57 = .ok (.aload_n 0, 1) := by decide +kernel
theorem dX4_isBefore_58 : decode cX4_isBefore 58 = .ok (.getfield 18, 3) := by decide +kernel
theorem dX4_isBefore_61 : decode cX4_isBefore 61 = .ok (.iload_n 2, 1) := by decide +kernel
theorem dX4_isBefore_62 : decode cX4_isBefore 62 = .ok (.iaload, 1) := by decide +kernel
theorem dX4_isBefore_63 : decode cX4_isBefore 63 = .ok (.if_icmp .ge 7, 3) := by decide +kernel
theorem dX4_isBefore_66 : decode cX4_isBefore 66 = .ok (.iconst 1, 1) := by decide +kernel
theorem dX4_isBefore_67 : decode cX4_isBefore 67 = .ok (.goto 4, 3) := by decide +kernel
theorem dX4_isBefore_70 : decode cX4_isBefore 70 = .ok (.iconst 0, 1) := by decide +kernel
theorem dX4_isBefore_71 : decode cX4_isBefore 71 = .ok (.ireturn, 1) := by decide +kernel
theorem dX4_isBefore_72 : decode cX4_isBefore 72 = .ok (.aload_n 0, 1) := by decide +kernel
theorem dX4_isBefore_73 : decode cX4_isBefore 73 = .ok (.getfield 15, 3) := by decide +kernel
theorem dX4_isBefore_76 : decode cX4_isBefore 76 = .ok (.iload_n 1, 1) := by decide +kernel
theorem dX4_isBefore_77 : decode cX4_isBefore 77 = .ok (.iaload, 1) := by decide +kernel
theorem dX4_isBefore_78 : decode cX4_isBefore 78 = .ok (.aload_n 0, 1) := by decide +kernel
theorem dX4_isBefore_79 : decode cX4_isBefore 79 = .ok (.getfield 15, 3) := by decide +kernel
theorem dX4_isBefore_82 : decode cX4_isBefore 82 = .ok (.iload_n 2, 1) := by decide +kernel
theorem dX4_isBefore_83 : decode cX4_isBefore 83 = .ok (.iaload, 1) := by decide +kernel
theorem dX4_isBefore_84 : decode cX4_isBefore 84 = .ok (.if_icmp .ge 7, 3) := by decide +kernel
theorem dX4_isBefore_87 : decode cX4_isBefore 87 = .ok (.iconst 1, 1) := by decide +kernel
theorem dX4_isBefore_88 : decode cX4_isBefore 88 = .ok (.goto 4, 3) := by decide +kernel
theorem dX4_isBefore_91 : decode cX4_isBefore 91 = .ok (.iconst 0, 1) := by decide +kernel
theorem dX4_isBefore_92 : decode cX4_isBefore 92 = .ok (.ireturn, 1) := by decide +kernel
theorem dX4_describe_0 : decode cX4_describe 0 = .ok (.iconst 0, 1) := by decide +kernel
theorem dX4_describe_1 : decode cX4_describe 1 = .ok (.istore_n 2, 1) := by decide +kernel
theorem dX4_describe_2 : decode cX4_describe 2 = .ok (.iload_n 2, 1) := by decide +kernel
theorem dX4_describe_3 : decode cX4_describe 3 = .ok (.aload_n 0, 1) := by decide +kernel
theorem dX4_describe_4 : decode cX4_describe 4 = .ok (.getfield 27, 3) := by decide +kernel
theorem dX4_describe_7 : decode cX4_describe 7 = .ok (.if_icmp .ge 67, 3) := by decide +kernel
theorem dX4_describe_10 : decode cX4_describe 10 = .ok (.iload_n 2, 1) := by decide +kernel
theorem dX4_describe_11 : decode cX4_describe 11 = .ok (.ifCond .le 10, 3) := by decide +kernel
theorem dX4_describe_14 : decode cX4_describe 14 = .ok (.aload_n 1, 1) := by decide +kernel
theorem dX4_describe_15 : decode cX4_describe 15 = .ok (.bipush 44, 2) := by decide +kernel
theorem dX4_describe_17 : decode cX4_describe 17 = .ok (.invokevirtual 41, 3) := by decide +kernel
theorem dX4_describe_20 : decode cX4_describe 20 = .ok (.pop, 1) := by decide +kernel
theorem dX4_describe_21 : decode cX4_describe 21 = .ok (.aload_n 1, 1) := by decide +kernel
theorem dX4_describe_22 : decode cX4_describe 22 = .ok (.aload_n 0, 1) := by decide +kernel
theorem dX4_describe_23 : decode cX4_describe 23 = .ok (.getfield 9, 3) := by decide +kernel
theorem dX4_describe_26 : decode cX4_describe 26 = .ok (.iload_n 2, 1) := by decide +kernel
theorem dX4_describe_27 : decode cX4_describe 27 = .ok (.iaload, 1) := by decide +kernel
theorem dX4_describe_28 : decode cX4_describe 28 = .ok (.invokevirtual 47, 3) := by decide +kernel
theorem dX4_describe_31 : decode cX4_describe 31 = .ok (.pop, 1) := by decide +kernel
theorem dX4_describe_32 : decode cX4_describe 32 = .ok (.aload_n 1, 1) := by decide +kernel
theorem dX4_describe_33 : decode cX4_describe 33 = .ok (.bipush 64, 2) := by decide +kernel
theorem dX4_describe_35 : decode cX4_describe 35 = .ok (.invokevirtual 41, 3) := by decide +kernel
theorem dX4_describe_38 : decode cX4_describe 38 = .ok (.pop, 1) := by decide +kernel
theorem dX4_describe_39 : decode cX4_describe 39 = .ok (.aload_n 1, 1) := by decide +kernel
theorem dX4_describe_40 : decode cX4_describe 40 = .ok (.aload_n 0, 1) := by decide +kernel
theorem dX4_describe_41 : decode cX4_describe 41 = .ok (.getfield 18, 3) := by decide +kernel
theorem dX4_describe_44 : decode cX4_describe 44 = .ok (.iload_n 2, 1) := by decide +kernel
theorem dX4_describe_45 : decode cX4_describe 45 = .ok (.iaload, 1) := by decide +kernel
theorem dX4_describe_46 : decode cX4_describe 46 = .ok (.invokevirtual 47, 3) := by decide +kernel
theorem dX4_describe_49 : decode cX4_describe 49 = .ok (.pop, 1) := by decide +kernel
theorem dX4_describe_50 : decode cX4_describe 50 = .ok (.aload_n 1, 1) := by decide +kernel
theorem dX4_describe_51 : decode cX4_describe 51 = .ok (.bipush 112, 2) := by decide +kernel
theorem dX4_describe_53 : decode cX4_describe 53 = .ok (.invokevirtual 41, 3) := by decide +kernel
theorem dX4_describe_56 : decode cX4_describe 56 = .ok (.pop, 1) := by decide +kernel
theorem dX4_describe_57 : decode cX4_describe 57 = .ok (.aload_n 1, 1) := by decide +kernel
theorem dX4_describe_58 : decode cX4_describe 58 = .ok (.aload_n 0, 1) := by decide +kernel
theorem dX4_describe_59 : decode cX4_describe 59 = .ok (.getfield 15, 3) := by decide +kernel
theorem dX4_describe_62 : decode cX4_describe 62 = .ok (.iload_n 2, 1) := by decide +kernel
theorem dX4_describe_63 : decode cX4_describe 63 = .ok (.iaload, 1) := by decide +kernel
theorem dX4_describe_64 : decode cX4_describe 64 = .ok (.invokevirtual 47, 3) := by decide +kernel
theorem dX4_describe_67 : decode cX4_describe 67 = .ok (.pop, 1) := by decide +kernel
theorem dX4_describe_68 : decode cX4_describe 68 = .ok (.iinc 2 1, 3) := by decide +kernel
theorem dX4_describe_71 : decode cX4_describe 71 = .ok (.goto (-69), 3) := by decide +kernel
theorem dX4_describe_74 : decode cX4_describe 74 = .ok (.return_, 1) := by decide +kernel
theorem dX5_init_0 : decode cX5_init 0 = .ok (.aload_n 0, 1) := by decide +kernel
theorem dX5_init_1 : decode cX5_init 1 = .ok (.invokespecial 3, 3) := by decide +kernel
theorem dX5_init_4 : decode cX5_init 4 = .ok (.aload_n 0, 1) := by decide +kernel
theorem dX5_init_5 : decode cX5_init 5 = .ok (.bipush 60, 2) := by decide +kernel
theorem dX5_init_7 : decode cX5_init 7 = .ok (.newarray .char, 2) := by decide +kernel
theorem dX5_init_9 : decode cX5_init 9 = .ok (.putfield 9, 3) := by decide +kernel
theorem dX5_init_12 : decode cX5_init 12 = .ok (.aload_n 0, 1) := by decide +kernel
theorem dX5_init_13 : decode cX5_init 13 = .ok (.bipush 60, 2) := by decide +kernel
theorem dX5_init_15 : decode cX5_init 15 = .ok (.anewarray 15, 3) := by decide +kernel
theorem dX5_init_18 : decode cX5_init 18 = .ok (.putfield 17, 3) := by decide +kernel
theorem dX5_init_21 : decode cX5_init 21 = .ok (.aload_n 0, 1) := by decide +kernel
theorem dX5_init_22 : decode cX5_init 22 = .ok (.bipush 60, 2) := by decide +kernel
theorem dX5_init_24 : decode cX5_init 24 = .ok (.newarray .int, 2) := by decide +kernel
theorem dX5_init_26 : decode cX5_init 26 = .ok (.putfield 21, 3) := by decide +kernel
theorem dX5_init_29 : decode cX5_init 29 = .ok (.return_, 1) := by decide +kernel
theorem dX5_append_0 : decode cX5_append 0 = .ok (.aload_n 0, 1) := by decide +kernel
theorem dX5_append_1 : decode cX5_append 1 = .ok (.getfield 9, 3) := by decide +kernel
theorem dX5_append_4 : decode cX5_append 4 = .ok (.aload_n 0, 1) := by decide +kernel
theorem dX5_append_5 : decode cX5_append 5 = .ok (.getfield 25, 3) := by decide +kernel
theorem dX5_append_8 : decode cX5_append 8 = .ok (.iload_n 1, 1) := by decide +kernel
theorem dX5_append_9 : decode cX5_append 9 = .ok (.castore, 1) := by decide +kernel
theorem dX5_append_10 : decode cX5_append 10 = .ok (.aload_n 0, 1) := by decide +kernel
theorem dX5_append_11 : decode cX5_append 11 = .ok (.dup, 1) := by decide +kernel
theorem dX5_append_12 : decode cX5_append 12 = .ok (.getfield 25, 3) := by decide +kernel
theorem dX5_append_15 : decode cX5_append 15 = .ok (.iconst 1, 1) := by decide +kernel
theorem dX5_append_16 : decode cX5_append 16 = .ok (.iadd, 1) := by decide +kernel
theorem dX5_append_17 : decode cX5_append 17 = .ok (.putfield 25, 3) := by decide +kernel
theorem dX5_append_20 : decode cX5_append 20 = .ok (.aload_n 0, 1) := by decide +kernel
theorem dX5_append_21 : decode cX5_append 21 = .ok (.getfield 25, 3) := by decide +kernel
theorem dX5_append_24 : decode cX5_append 24 = .ok (.ireturn, 1) := by decide +kernel
theorem dX5_parse_0 : decode cX5_parse 0 = .ok (.aload_n 0, 1) := by decide +kernel
theorem dX5_parse_1 : decode cX5_parse 1 = .ok (.iconst 0, 1) := by decide +kernel
theorem dX5_parse_2 : decode cX5_parse 2 = .ok (.putfield 29, 3) := by decide +kernel
theorem dX5_parse_5 : decode cX5_parse 5 = .ok (.aload_n 0, 1) := by decide +kernel
theorem dX5_parse_6 : decode cX5_parse 6 = .ok (.iconst 0, 1) := by decide +kernel
theorem dX5_parse_7 : decode cX5_parse 7 = .ok (.putfield 32, 3) := by decide +kernel
theorem dX5_parse_10 : decode cX5_parse 10 = .ok (.aload_n 0, 1) := by decide +kernel
theorem dX5_parse_11 : decode cX5_parse 11 = .ok (.invokevirtual 35, 3) := by decide +kernel
theorem dX5_parse_14 : decode cX5_parse 14 = .ok (.istore_n 1, 1) := by decide +kernel
theorem dX5_parse_15 : decode cX5_parse 15 = .ok (.iload_n 1, 1) := by decide +kernel
theorem dX5_parse_16 : decode cX5_parse 16 = .ok (.ifCond .eq 48, 3) := by decide +kernel
theorem dX5_parse_19 : decode cX5_parse 19 = .ok (.aload_n 0, 1) := by decide +kernel
theorem dX5_parse_20 : decode cX5_parse 20 = .ok (.getfield 29, 3) := by decide +kernel
theorem dX5_parse_23 : decode cX5_parse 23 = .ok (.aload_n 0, 1) := by decide +kernel
theorem dX5_parse_24 : decode cX5_parse 24 = .ok (.getfield 25, 3) := by decide +kernel
theorem dX5_parse_27 : decode cX5_parse 27 = .ok (.if_icmp .ge 37, 3) := by decide +kernel
theorem dX5_parse_30 : decode cX5_parse 30 = .ok (.aload_n 0, 1) := by decide +kernel
theorem dX5_parse_31 : decode cX5_parse 31 = .ok (.getfield 32, 3) := by decide +kernel
theorem dX5_parse_34 : decode cX5_parse 34 = .ok (.bipush 60, 2) := by decide +kernel
theorem dX5_parse_36 : decode cX5_parse 36 = .ok (.if_icmp .ge 28, 3) := by decide +kernel
theorem dX5_parse_39 : decode cX5_parse 39 = .ok (.aload_n 0, 1) := by decide +kernel
theorem dX5_parse_40 : decode cX5_parse 40 = .ok (.bipush 59, 2) := by decide +kernel
theorem dX5_parse_42 : decode cX5_parse 42 = .ok (.invokevirtual 39, 3) := by decide +kernel
theorem dX5_parse_45 : decode cX5_parse 45 = .ok (.ifCond .eq 14, 3) := by decide +kernel
theorem dX5_parse_48 : decode cX5_parse 48 = .ok (.aload_n 0, 1) := by decide +kernel
theorem dX5_parse_49 : decode cX5_parse 49 = .ok (.invokevirtual 35, 3) := by decide +kernel
theorem dX5_parse_52 : decode cX5_parse 52 = .ok (.ifCond .eq 7, 3) := by decide +kernel
theorem dX5_parse_55 : decode cX5_parse 55 = .ok (.iconst 1, 1) := by decide +kernel
theorem dX5_parse_56 : decode cX5_parse 56 = .ok (.goto 4, 3) := by decide +kernel
theorem dX5_parse_59 : decode cX5_parse 59 = .ok (.iconst 0, 1) := by decide +kernel
theorem dX5_parse_60 : decode cX5_parse 60 = .ok (.istore_n 1, 1) := by decide +kernel
theorem dX5_parse_61 : decode cX5_parse 61 = .ok (.goto (-46), 3) := by decide +kernel
theorem dX5_parse_64 : decode cX5_parse 64 = .ok (.iload_n 1, 1) := by decide +kernel
theorem dX5_parse_65 : decode cX5_parse 65 = .ok (.ireturn, 1) := by decide +kernel
theorem dX5_readCommand_0 : decode cX5_readCommand 0 = .ok (.aload_n 0, 1) := by decide +kernel
theorem dX5_readCommand_1 : decode cX5_readCommand 1 = .ok (.invokevirtual 43, 3) := by decide +kernel
theorem dX5_readCommand_4 : decode cX5_readCommand 4 = .ok (.astore_n 1, 1) := by decide +kernel
theorem dX5_readCommand_5 : decode cX5_readCommand 5 = .ok (.aload_n 1, 1) := by decide +kernel
theorem dX5_readCommand_6 : decode cX5_readCommand 6 = .ok (.ifnull 14, 3) := by decide +kernel
theorem dX5_readCommand_9 : decode cX5_readCommand 9 = .ok (.aload_n 0, 1) := by decide +kernel
theorem dX5_readCommand_10 : decode cX5_readCommand 10 = .ok (.aload_n 1, 1) := by decide +kernel
theorem dX5_readCommand_11 : decode cX5_readCommand 11 = .ok (.getfield 47, 3) := by decide +kernel
theorem dX5_readCommand_14 : decode cX5_readCommand 14 = .ok (.invokevirtual 51, 3) := by decide +kernel
theorem dX5_readCommand_17 : decode cX5_readCommand 17 = .ok (.ifCond .ne 5, 3) := by decide +kernel
theorem dX5_readCommand_20 : decode cX5_readCommand 20 = .ok (.iconst 0, 1) := by decide +kernel
theorem dX5_readCommand_21 : decode cX5_readCommand 21 = .ok (.ireturn, 1) := by decide +kernel
theorem dX5_readCommand_22 : decode cX5_readCommand 22 = .ok (.iconst 0, 1) := by decide +kernel
theorem dX5_readCommand_23 : decode cX5_readCommand 23 = .ok (.istore_n 2, 1) := by decide +kernel
theorem dX5_readCommand_24 : decode cX5_readCommand 24 = .ok (.aload_n 1, 1) := by decide +kernel
theorem dX5_readCommand_25 : decode cX5_readCommand 25 = .ok (.getfield 55, 3) := by decide +kernel
theorem dX5_readCommand_28 : decode cX5_readCommand 28 = .ok (.ifCond .eq 35, 3) := by decide +kernel
theorem dX5_readCommand_31 : decode cX5_readCommand 31 = .ok (.aload_n 0, 1) := by decide +kernel
theorem dX5_readCommand_32 : decode cX5_readCommand 32 = .ok (.invokevirtual 59, 3) := by decide +kernel
theorem dX5_readCommand_35 : decode cX5_readCommand 35 = .ok (.ifCond .ne 5, 3) := by decide +kernel
theorem dX5_readCommand_38 : decode cX5_readCommand 38 = .ok (.iconst 0, 1) := by decide +kernel
theorem dX5_readCommand_39 : decode cX5_readCommand 39 = .ok (.ireturn, 1) := by decide +kernel
theorem dX5_readCommand_40 : decode cX5_readCommand 40 = .ok (.aload_n 0, 1) := by decide +kernel
theorem dX5_readCommand_41 : decode cX5_readCommand 41 = .ok (.getfield 9, 3) := by decide +kernel
theorem dX5_readCommand_44 : decode cX5_readCommand 44 = .ok (.aload_n 0, 1) := by decide +kernel
theorem dX5_readCommand_45 : decode cX5_readCommand 45 = .ok (.getfield 29, 3) := by decide +kernel
theorem dX5_readCommand_48 : decode cX5_readCommand 48 = .ok (.caload, 1) := by decide +kernel
theorem dX5_readCommand_49 : decode cX5_readCommand 49 = .ok (.bipush 48, 2) := by decide +kernel
theorem dX5_readCommand_51 : decode cX5_readCommand 51 = .ok (.isub, 1) := by decide +kernel
theorem dX5_readCommand_52 : decode cX5_readCommand 52 = .ok (.istore_n 2, 1) := by decide +kernel
theorem dX5_readCommand_53 : decode cX5_readCommand 53 = .ok (.aload_n 0, 1) := by decide +kernel
theorem dX5_readCommand_54 : decode cX5_readCommand 54 = .ok (.dup, 1) := by decide +kernel
theorem dX5_readCommand_55 : decode cX5_readCommand 55 = .ok (.getfield 29, 3) := by decide +kernel
theorem dX5_readCommand_58 : decode cX5_readCommand 58 = .ok (.iconst 1, 1) := by decide +kernel
theorem dX5_readCommand_59 : decode cX5_readCommand 59 = .ok (.iadd, 1) := by decide +kernel
theorem dX5_readCommand_60 : decode cX5_readCommand 60 = .ok (.putfield 29, 3) := by decide +kernel
theorem dX5_readCommand_63 : decode cX5_readCommand 63 = .ok (.aload_n 0, 1) := by decide +kernel
theorem dX5_readCommand_64 : decode cX5_readCommand 64 = .ok (.getfield 17, 3) := by decide +kernel
theorem dX5_readCommand_67 : decode cX5_readCommand 67 = .ok (.aload_n 0, 1) := by decide +kernel
theorem dX5_readCommand_68 : decode cX5_readCommand 68 = .ok (.getfield 32, 3) := by decide +kernel
theorem dX5_readCommand_71 : decode cX5_readCommand 71 = .ok (.aload_n 1, 1) := by decide +kernel
theorem dX5_readCommand_72 : decode cX5_readCommand 72 = .ok (.aastore, 1) := by decide +kernel
theorem dX5_readCommand_73 : decode cX5_readCommand 73 = .ok (.aload_n 0, 1) := by decide +kernel
theorem dX5_readCommand_74 : decode cX5_readCommand 74 = .ok (.getfield 21, 3) := by decide +kernel
theorem dX5_readCommand_77 : decode cX5_readCommand 77 = .ok (.aload_n 0, 1) := by decide +kernel
theorem dX5_readCommand_78 : decode cX5_readCommand 78 = .ok (.getfield 32, 3) := by decide +kernel
theorem dX5_readCommand_81 : decode cX5_readCommand 81 = .ok (.iload_n 2, 1) := by decide +kernel
theorem dX5_readCommand_82 : decode cX5_readCommand 82 = .ok (.iastore, 1) := by decide +kernel
theorem dX5_readCommand_83 : decode cX5_readCommand 83 = .ok (.aload_n 0, 1) := by decide +kernel
theorem dX5_readCommand_84 : decode cX5_readCommand 84 = .ok (.dup, 1) := by decide +kernel
theorem dX5_readCommand_85 : decode cX5_readCommand 85 = .ok (.getfield 32, 3) := by decide +kernel
theorem dX5_readCommand_88 : decode cX5_readCommand 88 = .ok (.iconst 1, 1) := by decide +kernel
theorem dX5_readCommand_89 : decode cX5_readCommand 89 = .ok (.iadd, 1) := by decide +kernel
theorem dX5_readCommand_90 : decode cX5_readCommand 90 = .ok (.putfield 32, 3) := by decide +kernel
theorem dX5_readCommand_93 : decode cX5_readCommand 93 = .ok (.iconst 1, 1) := by decide +kernel
theorem dX5_readCommand_94 : decode cX5_readCommand 94 = .ok (.ireturn, 1) := by decide +kernel
theorem dX5_commandAhead_0 : decode cX5_commandAhead 0 = .ok (.aload_n 0, 1) := by decide +kernel
theorem dX5_commandAhead_1 : decode cX5_commandAhead 1 = .ok (.getfield 29, 3) := by decide +kernel
theorem dX5_commandAhead_4 : decode cX5_commandAhead 4 = .ok (.aload_n 0, 1) := by decide +kernel
theorem dX5_commandAhead_5 : decode cX5_commandAhead 5 = .ok (.getfield 25, 3) := by decide +kernel
theorem dX5_commandAhead_8 : decode cX5_commandAhead 8 = .ok (.if_icmp .lt 5, 3) := by decide +kernel
theorem dX5_commandAhead_11 : decode cX5_commandAhead 11 = .ok (.aconst_null, 1) := by decide +kernel
theorem dX5_commandAhead_12 : decode cX5_commandAhead 12 = .ok (.areturn, 1) := by decide +kernel
theorem dX5_commandAhead_13 : decode cX5_commandAhead 13 = .ok (.getstatic 62, 3) := by decide +kernel
theorem dX5_commandAhead_16 : decode cX5_commandAhead 16 = .ok (.astore_n 1, 1) := by decide +kernel
theorem dX5_commandAhead_17 : decode cX5_commandAhead 17 = .ok (.aload_n 1, 1) := by decide +kernel
theorem dX5_commandAhead_18 : decode cX5_commandAhead 18 = .ok (.arraylength, 1) := by decide +kernel
theorem dX5_commandAhead_19 : decode cX5_commandAhead 19 = .ok (.istore_n 2, 1) := by decide +kernel
theorem dX5_commandAhead_20 : decode cX5_commandAhead 20 = .ok (.iconst 0, 1) := by decide +kernel
theorem dX5_commandAhead_21 : decode cX5_commandAhead 21 = .ok (.istore_n 3, 1) := by decide +kernel
theorem dX5_commandAhead_22 : decode cX5_commandAhead 22 = .ok (.iload_n 3, 1) := by decide +kernel
theorem dX5_commandAhead_23 : decode cX5_commandAhead 23 = .ok (.iload_n 2, 1) := by decide +kernel
theorem dX5_commandAhead_24 : decode cX5_commandAhead 24 = .ok (.if_icmp .ge 37, 3) := by decide +kernel
theorem dX5_commandAhead_27 : decode cX5_commandAhead 27 = .ok (.aload_n 1, 1) := by decide +kernel
theorem dX5_commandAhead_28 : decode cX5_commandAhead 28 = .ok (.iload_n 3, 1) := by decide +kernel
theorem dX5_commandAhead_29 : decode cX5_commandAhead 29 = .ok (.aaload, 1) := by decide +kernel
theorem dX5_commandAhead_30 : decode cX5_commandAhead 30 = .ok (.astore 4, 2) := by decide +kernel
theorem dX5_commandAhead_32 : decode cX5_commandAhead 32 = .ok (.aload 4, 2) := by decide +kernel
theorem dX5_commandAhead_34 : decode cX5_commandAhead 34 = .ok (.getfield 47, 3) := by decide +kernel
theorem dX5_commandAhead_37 : decode cX5_commandAhead 37 = .ok (.aload_n 0, 1) := by decide +kernel
theorem dX5_commandAhead_38 : decode cX5_commandAhead 38 = .ok (.getfield 9, 3) := by decide +kernel
theorem dX5_commandAhead_41 : decode cX5_commandAhead 41 = .ok (.aload_n 0, 1) := by decide +kernel
theorem dX5_commandAhead_42 : decode cX5_commandAhead 42 = .ok (.getfield 29, 3) := by decide +kernel
theorem dX5_commandAhead_45 : decode cX5_commandAhead 45 = .ok (.caload, 1) := by decide +kernel
theorem dX5_commandAhead_46 : decode cX5_commandAhead 46 = .ok (.invokevirtual 65, 3) := by decide +kernel
theorem dX5_commandAhead_49 : decode cX5_commandAhead 49 = .ok (.ifCond .ne 6, 3) := by decide +kernel
theorem dX5_commandAhead_52 : decode cX5_commandAhead 52 = .ok (.aload 4, 2) := by decide +kernel
theorem dX5_commandAhead_54 : decode cX5_commandAhead 54 = .ok (.areturn, 1) := by decide +kernel
theorem dX5_commandAhead_55 : decode cX5_commandAhead 55 = .ok (.iinc 3 1, 3) := by decide +kernel
theorem dX5_commandAhead_58 : decode cX5_commandAhead 58 = .ok (.goto (-36), 3) := by decide +kernel
theorem dX5_commandAhead_61 : decode cX5_commandAhead 61 = .ok (.aconst_null, 1) := by decide +kernel
theorem dX5_commandAhead_62 : decode cX5_commandAhead 62 = .ok (.areturn, 1) := by decide +kernel
theorem dX5_readWord_0 : decode cX5_readWord 0 = .ok (.iconst 0, 1) := by decide +kernel
theorem dX5_readWord_1 : decode cX5_readWord 1 = .ok (.istore_n 2, 1) := by decide +kernel
theorem dX5_readWord_2 : decode cX5_readWord 2 = .ok (.iload_n 2, 1) := by decide +kernel
theorem dX5_readWord_3 : decode cX5_readWord 3 = .ok (.aload_n 1, 1) := by decide +kernel
theorem dX5_readWord_4 : decode cX5_readWord 4 = .ok (.invokevirtual 71, 3) := by decide +kernel
theorem dX5_readWord_7 : decode cX5_readWord 7 = .ok (.if_icmp .ge 23, 3) := by decide +kernel
theorem dX5_readWord_10 : decode cX5_readWord 10 = .ok (.aload_n 0, 1) := by decide +kernel
theorem dX5_readWord_11 : decode cX5_readWord 11 = .ok (.aload_n 1, 1) := by decide +kernel
theorem dX5_readWord_12 : decode cX5_readWord 12 = .ok (.iload_n 2, 1) := by decide +kernel
theorem dX5_readWord_13 : decode cX5_readWord 13 = .ok (.invokevirtual 74, 3) := by decide +kernel
theorem dX5_readWord_16 : decode cX5_readWord 16 = .ok (.invokevirtual 39, 3) := by decide +kernel
theorem dX5_readWord_19 : decode cX5_readWord 19 = .ok (.ifCond .ne 5, 3) := by decide +kernel
theorem dX5_readWord_22 : decode cX5_readWord 22 = .ok (.iconst 0, 1) := by decide +kernel
theorem dX5_readWord_23 : decode cX5_readWord 23 = .ok (.ireturn, 1) := by decide +kernel
theorem dX5_readWord_24 : decode cX5_readWord 24 = .ok (.iinc 2 1, 3) := by decide +kernel
theorem dX5_readWord_27 : decode cX5_readWord 27 = .ok (.goto (-25), 3) := by decide +kernel
theorem dX5_readWord_30 : decode cX5_readWord 30 = .ok (.iconst 1, 1) := by decide +kernel
theorem dX5_readWord_31 : decode cX5_readWord 31 = .ok (.ireturn, 1) := by decide +kernel
theorem dX5_read_0 : decode cX5_read 0 = .ok (.aload_n 0, 1) := by decide +kernel
theorem dX5_read_1 : decode cX5_read 1 = .ok (.getfield 29, 3) := by decide +kernel
theorem dX5_read_4 : decode cX5_read 4 = .ok (.aload_n 0, 1) := by decide +kernel
theorem dX5_read_5 : decode cX5_read 5 = .ok (.getfield 25, 3) := by decide +kernel
theorem dX5_read_8 : decode cX5_read 8 = .ok (.if_icmp .ge 16, 3) := by decide +kernel
theorem dX5_read_11 : decode cX5_read 11 = .ok (.aload_n 0, 1) := by decide +kernel
theorem dX5_read_12 : decode cX5_read 12 = .ok (.getfield 9, 3) := by decide +kernel
theorem dX5_read_15 : decode cX5_read 15 = .ok (.aload_n 0, 1) := by decide +kernel
theorem dX5_read_16 : decode cX5_read 16 = .ok (.getfield 29, 3) := by decide +kernel
theorem dX5_read_19 : decode cX5_read 19 = .ok (.caload, 1) := by decide +kernel
theorem dX5_read_20 : decode cX5_read 20 = .ok (.iload_n 1, 1) := by decide +kernel
theorem dX5_read_21 : decode cX5_read 21 = .ok (.if_icmp .eq 5, 3) := by decide +kernel
theorem dX5_read_24 : decode cX5_read 24 = .ok (.iconst 0, 1) := by decide +kernel
theorem dX5_read_25 : decode cX5_read 25 = .ok (.ireturn, 1) := by decide +kernel
theorem dX5_read_26 : decode cX5_read 26 = .ok (.aload_n 0, 1) := by decide +kernel
theorem dX5_read_27 : decode cX5_read 27 = .ok (.dup, 1) := by decide +kernel
theorem dX5_read_28 : decode cX5_read 28 = .ok (.getfield 29, 3) := by decide +kernel
theorem dX5_read_31 : decode cX5_read 31 = .ok (.iconst 1, 1) := by decide +kernel
theorem dX5_read_32 : decode cX5_read 32 = .ok (.iadd, 1) := by decide +kernel
theorem dX5_read_33 : decode cX5_read 33 = .ok (.putfield 29, 3) := by decide +kernel
theorem dX5_read_36 : decode cX5_read 36 = .ok (.iconst 1, 1) := by decide +kernel
theorem dX5_read_37 : decode cX5_read 37 = .ok (.ireturn, 1) := by decide +kernel
theorem dX5_isDigitAhead_0 : decode cX5_isDigitAhead 0 = .ok (.aload_n 0, 1) := by decide +kernel
theorem dX5_isDigitAhead_1 : decode cX5_isDigitAhead 1 = .ok (.getfield 29, 3) := by decide +kernel
theorem dX5_isDigitAhead_4 : decode cX5_isDigitAhead 4 = .ok (.aload_n 0, 1) := by decide +kernel
theorem dX5_isDigitAhead_5 : decode cX5_isDigitAhead 5 = .ok (.getfield 25, 3) := by decide +kernel
theorem dX5_isDigitAhead_8 : decode cX5_isDigitAhead 8 = .ok (.if_icmp .ge 35, 3) := by decide +kernel
theorem dX5_isDigitAhead_11 : decode cX5_isDigitAhead 11 = .ok (.aload_n 0, 1) := by decide +kernel
theorem dX5_isDigitAhead_12 : decode cX5_isDigitAhead 12 = .ok (.getfield 9, 3) := by decide +kernel
theorem dX5_isDigitAhead_15 : decode cX5_isDigitAhead 15 = .ok (.aload_n 0, 1) := by decide +kernel
theorem dX5_isDigitAhead_16 : decode cX5_isDigitAhead 16 = .ok (.getfield 29, 3) := by decide +kernel
theorem dX5_isDigitAhead_19 : decode cX5_isDigitAhead 19 = .ok (.caload, 1) := by decide +kernel
theorem dX5_isDigitAhead_20 : decode cX5_isDigitAhead 20 = .ok (.bipush 48, 2) := by decide +kernel
theorem dX5_isDigitAhead_22 : decode cX5_isDigitAhead 22 = .ok (.if_icmp .lt 21, 3) := by decide +kernel
theorem dX5_isDigitAhead_25 : decode cX5_isDigitAhead 25 = .ok (.aload_n 0, 1) := by decide +kernel
theorem dX5_isDigitAhead_26 : decode cX5_isDigitAhead 26 = .ok (.getfield 9, 3) := by decide +kernel
theorem dX5_isDigitAhead_29 : decode cX5_isDigitAhead 29 = .ok (.aload_n 0, 1) := by decide +kernel
theorem dX5_isDigitAhead_30 : decode cX5_isDigitAhead 30 = .ok (.getfield 29, 3) := by decide +kernel
theorem dX5_isDigitAhead_33 : decode cX5_isDigitAhead 33 = .ok (.caload, 1) := by decide +kernel
theorem dX5_isDigitAhead_34 : decode cX5_isDigitAhead 34 = .ok (.bipush 57, 2) := by decide +kernel
theorem dX5_isDigitAhead_36 : decode cX5_isDigitAhead 36 = .ok (.if_icmp .gt 7, 3) := by decide +kernel
theorem dX5_isDigitAhead_39 : decode cX5_isDigitAhead 39 = .ok (.iconst 1, 1) := by decide +kernel
theorem dX5_isDigitAhead_40 : decode cX5_isDigitAhead 40 = .ok (.goto 4, 3) := by decide +kernel
theorem dX5_isDigitAhead_43 : decode cX5_isDigitAhead 43 = .ok (.iconst 0, 1) := by decide +kernel
theorem dX5_isDigitAhead_44 : decode cX5_isDigitAhead 44 = .ok (.ireturn, 1) := by decide +kernel
theorem dX6_init_0 : decode cX6_init 0 = .ok (.aload_n 0, 1) := by decide +kernel
theorem dX6_init_1 : decode cX6_init 1 = .ok (.invokespecial 3, 3) := by decide +kernel
theorem dX6_init_4 : decode cX6_init 4 = .ok (.aload_n 0, 1) := by decide +kernel
theorem dX6_init_5 : decode cX6_init 5 = .ok (.iconst 4, 1) := by decide +kernel
theorem dX6_init_6 : decode cX6_init 6 = .ok (.newarray .int, 2) := by decide +kernel
theorem dX6_init_8 : decode cX6_init 8 = .ok (.putfield 9, 3) := by decide +kernel
theorem dX6_init_11 : decode cX6_init 11 = .ok (.aload_n 0, 1) := by decide +kernel
theorem dX6_init_12 : decode cX6_init 12 = .ok (.iconst 4, 1) := by decide +kernel
theorem dX6_init_13 : decode cX6_init 13 = .ok (.newarray .int, 2) := by decide +kernel
theorem dX6_init_15 : decode cX6_init 15 = .ok (.putfield 15, 3) := by decide +kernel
theorem dX6_init_18 : decode cX6_init 18 = .ok (.aload_n 0, 1) := by decide +kernel
theorem dX6_init_19 : decode cX6_init 19 = .ok (.new 18, 3) := by decide +kernel
theorem dX6_init_22 : decode cX6_init 22 = .ok (.dup, 1) := by decide +kernel
theorem dX6_init_23 : decode cX6_init 23 = .ok (.invokespecial 20, 3) := by decide +kernel
theorem dX6_init_26 : decode cX6_init 26 = .ok (.putfield 21, 3) := by decide +kernel
theorem dX6_init_29 : decode cX6_init 29 = .ok (.aload_n 0, 1) := by decide +kernel
theorem dX6_init_30 : decode cX6_init 30 = .ok (.new 25, 3) := by decide +kernel
theorem dX6_init_33 : decode cX6_init 33 = .ok (.dup, 1) := by decide +kernel
theorem dX6_init_34 : decode cX6_init 34 = .ok (.invokespecial 27, 3) := by decide +kernel
theorem dX6_init_37 : decode cX6_init 37 = .ok (.putfield 28, 3) := by decide +kernel
theorem dX6_init_40 : decode cX6_init 40 = .ok (.aload_n 0, 1) := by decide +kernel
theorem dX6_init_41 : decode cX6_init 41 = .ok (.new 32, 3) := by decide +kernel
theorem dX6_init_44 : decode cX6_init 44 = .ok (.dup, 1) := by decide +kernel
theorem dX6_init_45 : decode cX6_init 45 = .ok (.invokespecial 34, 3) := by decide +kernel
theorem dX6_init_48 : decode cX6_init 48 = .ok (.putfield 35, 3) := by decide +kernel
theorem dX6_init_51 : decode cX6_init 51 = .ok (.return_, 1) := by decide +kernel
theorem dX6_copyFrom_0 : decode cX6_copyFrom 0 = .ok (.aload_n 0, 1) := by decide +kernel
theorem dX6_copyFrom_1 : decode cX6_copyFrom 1 = .ok (.aload_n 1, 1) := by decide +kernel
theorem dX6_copyFrom_2 : decode cX6_copyFrom 2 = .ok (.getfield 39, 3) := by decide +kernel
theorem dX6_copyFrom_5 : decode cX6_copyFrom 5 = .ok (.putfield 39, 3) := by decide +kernel
theorem dX6_copyFrom_8 : decode cX6_copyFrom 8 = .ok (.aload_n 1, 1) := by decide +kernel
theorem dX6_copyFrom_9 : decode cX6_copyFrom 9 = .ok (.getfield 9, 3) := by decide +kernel
theorem dX6_copyFrom_12 : decode cX6_copyFrom 12 = .ok (.iconst 0, 1) := by decide +kernel
theorem dX6_copyFrom_13 : decode cX6_copyFrom 13 = .ok (.aload_n 0, 1) := by decide +kernel
theorem dX6_copyFrom_14 : decode cX6_copyFrom 14 = .ok (.getfield 9, 3) := by decide +kernel
theorem dX6_copyFrom_17 : decode cX6_copyFrom 17 = .ok (.iconst 0, 1) := by decide +kernel
theorem dX6_copyFrom_18 : decode cX6_copyFrom 18 = .ok (.iconst 4, 1) := by decide +kernel
theorem dX6_copyFrom_19 : decode cX6_copyFrom 19 = .ok (.invokestatic 43, 3) := by decide +kernel
theorem dX6_copyFrom_22 : decode cX6_copyFrom 22 = .ok (.aload_n 1, 1) := by decide +kernel
theorem dX6_copyFrom_23 : decode cX6_copyFrom 23 = .ok (.getfield 15, 3) := by decide +kernel
theorem dX6_copyFrom_26 : decode cX6_copyFrom 26 = .ok (.iconst 0, 1) := by decide +kernel
theorem dX6_copyFrom_27 : decode cX6_copyFrom 27 = .ok (.aload_n 0, 1) := by decide +kernel
theorem dX6_copyFrom_28 : decode cX6_copyFrom 28 = .ok (.getfield 15, 3) := by decide +kernel
theorem dX6_copyFrom_31 : decode cX6_copyFrom 31 = .ok (.iconst 0, 1) := by decide +kernel
theorem dX6_copyFrom_32 : decode cX6_copyFrom 32 = .ok (.iconst 4, 1) := by decide +kernel
theorem dX6_copyFrom_33 : decode cX6_copyFrom 33 = .ok (.invokestatic 43, 3) := by decide +kernel
theorem dX6_copyFrom_36 : decode cX6_copyFrom 36 = .ok (.aload_n 0, 1) := by decide +kernel
theorem dX6_copyFrom_37 : decode cX6_copyFrom 37 = .ok (.aload_n 1, 1) := by decide +kernel
theorem dX6_copyFrom_38 : decode cX6_copyFrom 38 = .ok (.getfield 49, 3) := by decide +kernel
theorem dX6_copyFrom_41 : decode cX6_copyFrom 41 = .ok (.putfield 49, 3) := by decide +kernel
theorem dX6_copyFrom_44 : decode cX6_copyFrom 44 = .ok (.aload_n 0, 1) := by decide +kernel
theorem dX6_copyFrom_45 : decode cX6_copyFrom 45 = .ok (.aload_n 1, 1) := by decide +kernel
theorem dX6_copyFrom_46 : decode cX6_copyFrom 46 = .ok (.getfield 53, 3) := by decide +kernel
theorem dX6_copyFrom_49 : decode cX6_copyFrom 49 = .ok (.putfield 53, 3) := by decide +kernel
theorem dX6_copyFrom_52 : decode cX6_copyFrom 52 = .ok (.aload_n 0, 1) := by decide +kernel
theorem dX6_copyFrom_53 : decode cX6_copyFrom 53 = .ok (.aload_n 1, 1) := by decide +kernel
theorem dX6_copyFrom_54 : decode cX6_copyFrom 54 = .ok (.getfield 56, 3) := by decide +kernel
theorem dX6_copyFrom_57 : decode cX6_copyFrom 57 = .ok (.putfield 56, 3) := by decide +kernel
theorem dX6_copyFrom_60 : decode cX6_copyFrom 60 = .ok (.aload_n 0, 1) := by decide +kernel
theorem dX6_copyFrom_61 : decode cX6_copyFrom 61 = .ok (.aload_n 1, 1) := by decide +kernel
theorem dX6_copyFrom_62 : decode cX6_copyFrom 62 = .ok (.getfield 59, 3) := by decide +kernel
theorem dX6_copyFrom_65 : decode cX6_copyFrom 65 = .ok (.putfield 59, 3) := by decide +kernel
theorem dX6_copyFrom_68 : decode cX6_copyFrom 68 = .ok (.aload_n 0, 1) := by decide +kernel
theorem dX6_copyFrom_69 : decode cX6_copyFrom 69 = .ok (.getfield 21, 3) := by decide +kernel
theorem dX6_copyFrom_72 : decode cX6_copyFrom 72 = .ok (.aload_n 1, 1) := by decide +kernel
theorem dX6_copyFrom_73 : decode cX6_copyFrom 73 = .ok (.getfield 21, 3) := by decide +kernel
theorem dX6_copyFrom_76 : decode cX6_copyFrom 76 = .ok (.invokevirtual 62, 3) := by decide +kernel
theorem dX6_copyFrom_79 : decode cX6_copyFrom 79 = .ok (.aload_n 0, 1) := by decide +kernel
theorem dX6_copyFrom_80 : decode cX6_copyFrom 80 = .ok (.getfield 28, 3) := by decide +kernel
theorem dX6_copyFrom_83 : decode cX6_copyFrom 83 = .ok (.aload_n 1, 1) := by decide +kernel
theorem dX6_copyFrom_84 : decode cX6_copyFrom 84 = .ok (.getfield 28, 3) := by decide +kernel
theorem dX6_copyFrom_87 : decode cX6_copyFrom 87 = .ok (.invokevirtual 66, 3) := by decide +kernel
theorem dX6_copyFrom_90 : decode cX6_copyFrom 90 = .ok (.aload_n 0, 1) := by decide +kernel
theorem dX6_copyFrom_91 : decode cX6_copyFrom 91 = .ok (.getfield 35, 3) := by decide +kernel
theorem dX6_copyFrom_94 : decode cX6_copyFrom 94 = .ok (.aload_n 1, 1) := by decide +kernel
theorem dX6_copyFrom_95 : decode cX6_copyFrom 95 = .ok (.getfield 35, 3) := by decide +kernel
theorem dX6_copyFrom_98 : decode cX6_copyFrom 98 = .ok (.invokevirtual 69, 3) := by decide +kernel
theorem dX6_copyFrom_101 : decode cX6_copyFrom 101 = .ok (.return_, 1) := by decide +kernel
theorem dX6_canAdmit_0 : decode cX6_canAdmit 0 = .ok (.aload_n 0, 1) := by decide +kernel
theorem dX6_canAdmit_1 : decode cX6_canAdmit 1 = .ok (.getfield 49, 3) := by decide +kernel
theorem dX6_canAdmit_4 : decode cX6_canAdmit 4 = .ok (.ifCond .ne 15, 3) := by decide +kernel
theorem dX6_canAdmit_7 : decode cX6_canAdmit 7 = .ok (.aload_n 0, 1) := by decide +kernel
theorem dX6_canAdmit_8 : decode cX6_canAdmit 8 = .ok (.getfield 39, 3) := by decide +kernel
theorem dX6_canAdmit_11 : decode cX6_canAdmit 11 = .ok (.iconst 4, 1) := by decide +kernel
theorem dX6_canAdmit_12 : decode cX6_canAdmit 12 = .ok (.if_icmp .ge 7, 3) := by decide +kernel
theorem dX6_canAdmit_15 : decode cX6_canAdmit 15 = .ok (.iconst 1, 1) := by decide +kernel
theorem dX6_canAdmit_16 : decode cX6_canAdmit 16 = .ok (.goto 4, 3) := by decide +kernel
theorem dX6_canAdmit_19 : decode cX6_canAdmit 19 = .ok (.iconst 0, 1) := by decide +kernel
theorem dX6_canAdmit_20 : decode cX6_canAdmit 20 = .ok (.ireturn, 1) := by decide +kernel
theorem dX6_admit_0 : decode cX6_admit 0 = .ok (.aload_n 0, 1) := by decide +kernel
theorem dX6_admit_1 : decode cX6_admit 1 = .ok (.getfield 39, 3) := by decide +kernel
theorem dX6_admit_4 : decode cX6_admit 4 = .ok (.istore_n 1, 1) := by decide +kernel
theorem dX6_admit_5 : decode cX6_admit 5 = .ok (.aload_n 0, 1) := by decide +kernel
theorem dX6_admit_6 : decode cX6_admit 6 = .ok (.getfield 9, 3) := by decide +kernel
theorem dX6_admit_9 : decode cX6_admit 9 = .ok (.iload_n 1, 1) := by decide +kernel
theorem dX6_admit_10 : decode cX6_admit 10 = .ok (.iconst 0, 1) := by decide +kernel
theorem dX6_admit_11 : decode cX6_admit 11 = .ok (.iastore, 1) := by decide +kernel
theorem dX6_admit_12 : decode cX6_admit 12 = .ok (.aload_n 0, 1) := by decide +kernel
theorem dX6_admit_13 : decode cX6_admit 13 = .ok (.getfield 15, 3) := by decide +kernel
theorem dX6_admit_16 : decode cX6_admit 16 = .ok (.iload_n 1, 1) := by decide +kernel
theorem dX6_admit_17 : decode cX6_admit 17 = .ok (.iconst 0, 1) := by decide +kernel
theorem dX6_admit_18 : decode cX6_admit 18 = .ok (.iastore, 1) := by decide +kernel
theorem dX6_admit_19 : decode cX6_admit 19 = .ok (.aload_n 0, 1) := by decide +kernel
theorem dX6_admit_20 : decode cX6_admit 20 = .ok (.dup, 1) := by decide +kernel
theorem dX6_admit_21 : decode cX6_admit 21 = .ok (.getfield 39, 3) := by decide +kernel
theorem dX6_admit_24 : decode cX6_admit 24 = .ok (.iconst 1, 1) := by decide +kernel
theorem dX6_admit_25 : decode cX6_admit 25 = .ok (.iadd, 1) := by decide +kernel
theorem dX6_admit_26 : decode cX6_admit 26 = .ok (.putfield 39, 3) := by decide +kernel
theorem dX6_admit_29 : decode cX6_admit 29 = .ok (.iload_n 1, 1) := by decide +kernel
theorem dX6_admit_30 : decode cX6_admit 30 = .ok (.ireturn, 1) := by decide +kernel
theorem dX6_beginGame_0 : decode cX6_beginGame 0 = .ok (.iconst 0, 1) := by decide +kernel
theorem dX6_beginGame_1 : decode cX6_beginGame 1 = .ok (.istore_n 1, 1) := by decide +kernel
theorem dX6_beginGame_2 : decode cX6_beginGame 2 = .ok (.iload_n 1, 1) := by decide +kernel
theorem dX6_beginGame_3 : decode cX6_beginGame 3 = .ok (.aload_n 0, 1) := by decide +kernel
theorem dX6_beginGame_4 : decode cX6_beginGame 4 = .ok (.getfield 39, 3) := by decide +kernel
theorem dX6_beginGame_7 : decode cX6_beginGame 7 = .ok (.if_icmp .ge 23, 3) := by decide +kernel
theorem dX6_beginGame_10 : decode cX6_beginGame 10 = .ok (.aload_n 0, 1) := by decide +kernel
theorem dX6_beginGame_11 : decode cX6_beginGame 11 = .ok (.getfield 9, 3) := by decide +kernel
theorem dX6_beginGame_14 : decode cX6_beginGame 14 = .ok (.iload_n 1, 1) := by decide +kernel
theorem dX6_beginGame_15 : decode cX6_beginGame 15 = .ok (.iconst 0, 1) := by decide +kernel
theorem dX6_beginGame_16 : decode cX6_beginGame 16 = .ok (.iastore, 1) := by decide +kernel
theorem dX6_beginGame_17 : decode cX6_beginGame 17 = .ok (.aload_n 0, 1) := by decide +kernel
theorem dX6_beginGame_18 : decode cX6_beginGame 18 = .ok (.getfield 15, 3) := by decide +kernel
theorem dX6_beginGame_21 : decode cX6_beginGame 21 = .ok (.iload_n 1, 1) := by decide +kernel
theorem dX6_beginGame_22 : decode cX6_beginGame 22 = .ok (.iconst 0, 1) := by decide +kernel
theorem dX6_beginGame_23 : decode cX6_beginGame 23 = .ok (.iastore, 1) := by decide +kernel
theorem dX6_beginGame_24 : decode cX6_beginGame 24 = .ok (.iinc 1 1, 3) := by decide +kernel
theorem dX6_beginGame_27 : decode cX6_beginGame 27 = .ok (.goto (-25), 3) := by decide +kernel
theorem dX6_beginGame_30 : decode cX6_beginGame 30 = .ok (.aload_n 0, 1) := by decide +kernel
theorem dX6_beginGame_31 : decode cX6_beginGame 31 = .ok (.iconst 1, 1) := by decide +kernel
theorem dX6_beginGame_32 : decode cX6_beginGame 32 = .ok (.putfield 49, 3) := by decide +kernel
theorem dX6_beginGame_35 : decode cX6_beginGame 35 = .ok (.aload_n 0, 1) := by decide +kernel
theorem dX6_beginGame_36 : decode cX6_beginGame 36 = .ok (.dup, 1) := by decide +kernel
theorem dX6_beginGame_37 : decode cX6_beginGame 37 = .ok (.getfield 53, 3) := by decide +kernel
theorem dX6_beginGame_40 : decode cX6_beginGame 40 = .ok (.iconst 1, 1) := by decide +kernel
theorem dX6_beginGame_41 : decode cX6_beginGame 41 = .ok (.iadd, 1) := by decide +kernel
theorem dX6_beginGame_42 : decode cX6_beginGame 42 = .ok (.putfield 53, 3) := by decide +kernel
theorem dX6_beginGame_45 : decode cX6_beginGame 45 = .ok (.aload_n 0, 1) := by decide +kernel
theorem dX6_beginGame_46 : decode cX6_beginGame 46 = .ok (.iconst 0, 1) := by decide +kernel
theorem dX6_beginGame_47 : decode cX6_beginGame 47 = .ok (.putfield 56, 3) := by decide +kernel
theorem dX6_beginGame_50 : decode cX6_beginGame 50 = .ok (.aload_n 0, 1) := by decide +kernel
theorem dX6_beginGame_51 : decode cX6_beginGame 51 = .ok (.iconst 1, 1) := by decide +kernel
theorem dX6_beginGame_52 : decode cX6_beginGame 52 = .ok (.putfield 59, 3) := by decide +kernel
theorem dX6_beginGame_55 : decode cX6_beginGame 55 = .ok (.aload_n 0, 1) := by decide +kernel
theorem dX6_beginGame_56 : decode cX6_beginGame 56 = .ok (.getfield 21, 3) := by decide +kernel
theorem dX6_beginGame_59 : decode cX6_beginGame 59 = .ok (.invokevirtual 72, 3) := by decide +kernel
theorem dX6_beginGame_62 : decode cX6_beginGame 62 = .ok (.aload_n 0, 1) := by decide +kernel
theorem dX6_beginGame_63 : decode cX6_beginGame 63 = .ok (.getfield 53, 3) := by decide +kernel
theorem dX6_beginGame_66 : decode cX6_beginGame 66 = .ok (.ireturn, 1) := by decide +kernel
theorem dX6_playLane_0 : decode cX6_playLane 0 = .ok (.aload_n 0, 1) := by decide +kernel
theorem dX6_playLane_1 : decode cX6_playLane 1 = .ok (.getfield 21, 3) := by decide +kernel
theorem dX6_playLane_4 : decode cX6_playLane 4 = .ok (.iload_n 1, 1) := by decide +kernel
theorem dX6_playLane_5 : decode cX6_playLane 5 = .ok (.invokevirtual 75, 3) := by decide +kernel
theorem dX6_playLane_8 : decode cX6_playLane 8 = .ok (.istore_n 2, 1) := by decide +kernel
theorem dX6_playLane_9 : decode cX6_playLane 9 = .ok (.aload_n 0, 1) := by decide +kernel
theorem dX6_playLane_10 : decode cX6_playLane 10 = .ok (.iconst 0, 1) := by decide +kernel
theorem dX6_playLane_11 : decode cX6_playLane 11 = .ok (.iload_n 2, 1) := by decide +kernel
theorem dX6_playLane_12 : decode cX6_playLane 12 = .ok (.invokevirtual 79, 3) := by decide +kernel
theorem dX6_playLane_15 : decode cX6_playLane 15 = .ok (.iload_n 2, 1) := by decide +kernel
theorem dX6_playLane_16 : decode cX6_playLane 16 = .ok (.ireturn, 1) := by decide +kernel
theorem dX6_playBumper_0 : decode cX6_playBumper 0 = .ok (.aload_n 0, 1) := by decide +kernel
theorem dX6_playBumper_1 : decode cX6_playBumper 1 = .ok (.getfield 21, 3) := by decide +kernel
theorem dX6_playBumper_4 : decode cX6_playBumper 4 = .ok (.iload_n 1, 1) := by decide +kernel
theorem dX6_playBumper_5 : decode cX6_playBumper 5 = .ok (.invokevirtual 83, 3) := by decide +kernel
theorem dX6_playBumper_8 : decode cX6_playBumper 8 = .ok (.istore_n 2, 1) := by decide +kernel
theorem dX6_playBumper_9 : decode cX6_playBumper 9 = .ok (.aload_n 0, 1) := by decide +kernel
theorem dX6_playBumper_10 : decode cX6_playBumper 10 = .ok (.iconst 1, 1) := by decide +kernel
theorem dX6_playBumper_11 : decode cX6_playBumper 11 = .ok (.iload_n 2, 1) := by decide +kernel
theorem dX6_playBumper_12 : decode cX6_playBumper 12 = .ok (.invokevirtual 79, 3) := by decide +kernel
theorem dX6_playBumper_15 : decode cX6_playBumper 15 = .ok (.iload_n 2, 1) := by decide +kernel
theorem dX6_playBumper_16 : decode cX6_playBumper 16 = .ok (.ireturn, 1) := by decide +kernel
theorem dX6_playTarget_0 : decode cX6_playTarget 0 = .ok (.aload_n 0, 1) := by decide +kernel
theorem dX6_playTarget_1 : decode cX6_playTarget 1 = .ok (.getfield 21, 3) := by decide +kernel
theorem dX6_playTarget_4 : decode cX6_playTarget 4 = .ok (.getfield 86, 3) := by decide +kernel
theorem dX6_playTarget_7 : decode cX6_playTarget 7 = .ok (.istore_n 2, 1) := by decide +kernel
theorem dX6_playTarget_8 : decode cX6_playTarget 8 = .ok (.aload_n 0, 1) := by decide +kernel
theorem dX6_playTarget_9 : decode cX6_playTarget 9 = .ok (.getfield 21, 3) := by decide +kernel
theorem dX6_playTarget_12 : decode cX6_playTarget 12 = .ok (.iload_n 1, 1) := by decide +kernel
theorem dX6_playTarget_13 : decode cX6_playTarget 13 = .ok (.invokevirtual 89, 3) := by decide +kernel
theorem dX6_playTarget_16 : decode cX6_playTarget 16 = .ok (.istore_n 3, 1) := by decide +kernel
theorem dX6_playTarget_17 : decode cX6_playTarget 17 = .ok (.aload_n 0, 1) := by decide +kernel
theorem dX6_playTarget_18 : decode cX6_playTarget 18 = .ok (.getfield 21, 3) := by decide +kernel
theorem dX6_playTarget_21 : decode cX6_playTarget 21 = .ok (.getfield 86, 3) := by decide +kernel
theorem dX6_playTarget_24 : decode cX6_playTarget 24 = .ok (.iload_n 2, 1) := by decide +kernel
theorem dX6_playTarget_25 : decode cX6_playTarget 25 = .ok (.if_icmp .le 18, 3) := by decide +kernel
theorem dX6_playTarget_28 : decode cX6_playTarget 28 = .ok (.aload_n 0, 1) := by decide +kernel
theorem dX6_playTarget_29 : decode cX6_playTarget 29 = .ok (.getfield 21, 3) := by decide +kernel
theorem dX6_playTarget_32 : decode cX6_playTarget 32 = .ok (.getfield 86, 3) := by decide +kernel
theorem dX6_playTarget_35 : decode cX6_playTarget 35 = .ok (.iconst 2, 1) := by decide +kernel
theorem dX6_playTarget_36 : decode cX6_playTarget 36 = .ok (.if_icmp .ne 7, 3) := by decide +kernel
theorem dX6_playTarget_39 : decode cX6_playTarget 39 = .ok (.aload_n 0, 1) := by decide +kernel
theorem dX6_playTarget_40 : decode cX6_playTarget 40 = .ok (.invokevirtual 92, 3) := by decide +kernel
theorem dX6_playTarget_43 : decode cX6_playTarget 43 = .ok (.aload_n 0, 1) := by decide +kernel
theorem dX6_playTarget_44 : decode cX6_playTarget 44 = .ok (.iconst 2, 1) := by decide +kernel
theorem dX6_playTarget_45 : decode cX6_playTarget 45 = .ok (.iload_n 3, 1) := by decide +kernel
theorem dX6_playTarget_46 : decode cX6_playTarget 46 = .ok (.invokevirtual 79, 3) := by decide +kernel
theorem dX6_playTarget_49 : decode cX6_playTarget 49 = .ok (.iload_n 3, 1) := by decide +kernel
theorem dX6_playTarget_50 : decode cX6_playTarget 50 = .ok (.ireturn, 1) := by decide +kernel
theorem dX6_shake_0 : decode cX6_shake 0 = .ok (.aload_n 0, 1) := by decide +kernel
theorem dX6_shake_1 : decode cX6_shake 1 = .ok (.getfield 21, 3) := by decide +kernel
theorem dX6_shake_4 : decode cX6_shake 4 = .ok (.getfield 95, 3) := by decide +kernel
theorem dX6_shake_7 : decode cX6_shake 7 = .ok (.istore_n 2, 1) := by decide +kernel
theorem dX6_shake_8 : decode cX6_shake 8 = .ok (.aload_n 0, 1) := by decide +kernel
theorem dX6_shake_9 : decode cX6_shake 9 = .ok (.getfield 21, 3) := by decide +kernel
theorem dX6_shake_12 : decode cX6_shake 12 = .ok (.iload_n 1, 1) := by decide +kernel
theorem dX6_shake_13 : decode cX6_shake 13 = .ok (.invokevirtual 98, 3) := by decide +kernel
theorem dX6_shake_16 : decode cX6_shake 16 = .ok (.aload_n 0, 1) := by decide +kernel
theorem dX6_shake_17 : decode cX6_shake 17 = .ok (.getfield 21, 3) := by decide +kernel
theorem dX6_shake_20 : decode cX6_shake 20 = .ok (.getfield 95, 3) := by decide +kernel
theorem dX6_shake_23 : decode cX6_shake 23 = .ok (.ifCond .eq 20, 3) := by decide +kernel
theorem dX6_shake_26 : decode cX6_shake 26 = .ok (.iload_n 2, 1) := by decide +kernel
theorem dX6_shake_27 : decode cX6_shake 27 = .ok (.ifCond .ne 16, 3) := by decide +kernel
theorem dX6_shake_30 : decode cX6_shake 30 = .ok (.aload_n 0, 1) := by decide +kernel
theorem dX6_shake_31 : decode cX6_shake 31 = .ok (.getfield 35, 3) := by decide +kernel
theorem dX6_shake_34 : decode cX6_shake 34 = .ok (.dup, 1) := by decide +kernel
theorem dX6_shake_35 : decode cX6_shake 35 = .ok (.getfield 102, 3) := by decide +kernel
theorem dX6_shake_38 : decode cX6_shake 38 = .ok (.iconst 1, 1) := by decide +kernel
theorem dX6_shake_39 : decode cX6_shake 39 = .ok (.iadd, 1) := by decide +kernel
theorem dX6_shake_40 : decode cX6_shake 40 = .ok (.putfield 102, 3) := by decide +kernel
theorem dX6_shake_43 : decode cX6_shake 43 = .ok (.aload_n 0, 1) := by decide +kernel
theorem dX6_shake_44 : decode cX6_shake 44 = .ok (.getfield 21, 3) := by decide +kernel
theorem dX6_shake_47 : decode cX6_shake 47 = .ok (.getfield 105, 3) := by decide +kernel
theorem dX6_shake_50 : decode cX6_shake 50 = .ok (.ireturn, 1) := by decide +kernel
theorem dX6_loseBall_0 : decode cX6_loseBall 0 = .ok (.aload_n 0, 1) := by decide +kernel
theorem dX6_loseBall_1 : decode cX6_loseBall 1 = .ok (.getfield 21, 3) := by decide +kernel
theorem dX6_loseBall_4 : decode cX6_loseBall 4 = .ok (.invokevirtual 108, 3) := by decide +kernel
theorem dX6_loseBall_7 : decode cX6_loseBall 7 = .ok (.ifCond .eq 13, 3) := by decide +kernel
theorem dX6_loseBall_10 : decode cX6_loseBall 10 = .ok (.aload_n 0, 1) := by decide +kernel
theorem dX6_loseBall_11 : decode cX6_loseBall 11 = .ok (.getfield 21, 3) := by decide +kernel
theorem dX6_loseBall_14 : decode cX6_loseBall 14 = .ok (.iconst 1, 1) := by decide +kernel
theorem dX6_loseBall_15 : decode cX6_loseBall 15 = .ok (.putfield 112, 3) := by decide +kernel
theorem dX6_loseBall_18 : decode cX6_loseBall 18 = .ok (.iconst 0, 1) := by decide +kernel
theorem dX6_loseBall_19 : decode cX6_loseBall 19 = .ok (.ireturn, 1) := by decide +kernel
theorem dX6_loseBall_20 : decode cX6_loseBall 20 = .ok (.aload_n 0, 1) := by decide +kernel
theorem dX6_loseBall_21 : decode cX6_loseBall 21 = .ok (.getfield 21, 3) := by decide +kernel
theorem dX6_loseBall_24 : decode cX6_loseBall 24 = .ok (.invokevirtual 115, 3) := by decide +kernel
theorem dX6_loseBall_27 : decode cX6_loseBall 27 = .ok (.istore_n 1, 1) := by decide +kernel
theorem dX6_loseBall_28 : decode cX6_loseBall 28 = .ok (.aload_n 0, 1) := by decide +kernel
theorem dX6_loseBall_29 : decode cX6_loseBall 29 = .ok (.getfield 35, 3) := by decide +kernel
theorem dX6_loseBall_32 : decode cX6_loseBall 32 = .ok (.dup, 1) := by decide +kernel
theorem dX6_loseBall_33 : decode cX6_loseBall 33 = .ok (.getfield 119, 3) := by decide +kernel
theorem dX6_loseBall_36 : decode cX6_loseBall 36 = .ok (.iconst 1, 1) := by decide +kernel
theorem dX6_loseBall_37 : decode cX6_loseBall 37 = .ok (.iadd, 1) := by decide +kernel
theorem dX6_loseBall_38 : decode cX6_loseBall 38 = .ok (.putfield 119, 3) := by decide +kernel
theorem dX6_loseBall_41 : decode cX6_loseBall 41 = .ok (.aload_n 0, 1) := by decide +kernel
theorem dX6_loseBall_42 : decode cX6_loseBall 42 = .ok (.iconst 3, 1) := by decide +kernel
theorem dX6_loseBall_43 : decode cX6_loseBall 43 = .ok (.iload_n 1, 1) := by decide +kernel
theorem dX6_loseBall_44 : decode cX6_loseBall 44 = .ok (.invokevirtual 79, 3) := by decide +kernel
theorem dX6_loseBall_47 : decode cX6_loseBall 47 = .ok (.aload_n 0, 1) := by decide +kernel
theorem dX6_loseBall_48 : decode cX6_loseBall 48 = .ok (.invokevirtual 122, 3) := by decide +kernel
theorem dX6_loseBall_51 : decode cX6_loseBall 51 = .ok (.iload_n 1, 1) := by decide +kernel
theorem dX6_loseBall_52 : decode cX6_loseBall 52 = .ok (.ireturn, 1) := by decide +kernel
theorem dX6_breakOff_0 : decode cX6_breakOff 0 = .ok (.aload_n 0, 1) := by decide +kernel
theorem dX6_breakOff_1 : decode cX6_breakOff 1 = .ok (.iconst 0, 1) := by decide +kernel
theorem dX6_breakOff_2 : decode cX6_breakOff 2 = .ok (.putfield 49, 3) := by decide +kernel
theorem dX6_breakOff_5 : decode cX6_breakOff 5 = .ok (.aload_n 0, 1) := by decide +kernel
theorem dX6_breakOff_6 : decode cX6_breakOff 6 = .ok (.getfield 56, 3) := by decide +kernel
theorem dX6_breakOff_9 : decode cX6_breakOff 9 = .ok (.ireturn, 1) := by decide +kernel
theorem dX6_award_0 : decode cX6_award 0 = .ok (.aload_n 0, 1) := by decide +kernel
theorem dX6_award_1 : decode cX6_award 1 = .ok (.iload_n 2, 1) := by decide +kernel
theorem dX6_award_2 : decode cX6_award 2 = .ok (.invokevirtual 125, 3) := by decide +kernel
theorem dX6_award_5 : decode cX6_award 5 = .ok (.ifCond .eq 7, 3) := by decide +kernel
theorem dX6_award_8 : decode cX6_award 8 = .ok (.aload_n 0, 1) := by decide +kernel
theorem dX6_award_9 : decode cX6_award 9 = .ok (.invokevirtual 92, 3) := by decide +kernel
theorem dX6_award_12 : decode cX6_award 12 = .ok (.aload_n 0, 1) := by decide +kernel
theorem dX6_award_13 : decode cX6_award 13 = .ok (.getfield 9, 3) := by decide +kernel
theorem dX6_award_16 : decode cX6_award 16 = .ok (.aload_n 0, 1) := by decide +kernel
theorem dX6_award_17 : decode cX6_award 17 = .ok (.getfield 56, 3) := by decide +kernel
theorem dX6_award_20 : decode cX6_award 20 = .ok (.dup2, 1) := by decide +kernel
theorem dX6_award_21 : decode cX6_award 21 = .ok (.iaload, 1) := by decide +kernel
theorem dX6_award_22 : decode cX6_award 22 = .ok (.iload_n 2, 1) := by decide +kernel
theorem dX6_award_23 : decode cX6_award 23 = .ok (.iadd, 1) := by decide +kernel
theorem dX6_award_24 : decode cX6_award 24 = .ok (.iastore, 1) := by decide +kernel
theorem dX6_award_25 : decode cX6_award 25 = .ok (.aload_n 0, 1) := by decide +kernel
theorem dX6_award_26 : decode cX6_award 26 = .ok (.getfield 35, 3) := by decide +kernel
theorem dX6_award_29 : decode cX6_award 29 = .ok (.getfield 129, 3) := by decide +kernel
theorem dX6_award_32 : decode cX6_award 32 = .ok (.iload_n 1, 1) := by decide +kernel
theorem dX6_award_33 : decode cX6_award 33 = .ok (.dup2, 1) := by decide +kernel
theorem dX6_award_34 : decode cX6_award 34 = .ok (.iaload, 1) := by decide +kernel
theorem dX6_award_35 : decode cX6_award 35 = .ok (.iload_n 2, 1) := by decide +kernel
theorem dX6_award_36 : decode cX6_award 36 = .ok (.iadd, 1) := by decide +kernel
theorem dX6_award_37 : decode cX6_award 37 = .ok (.iastore, 1) := by decide +kernel
theorem dX6_award_38 : decode cX6_award 38 = .ok (.aload_n 0, 1) := by decide +kernel
theorem dX6_award_39 : decode cX6_award 39 = .ok (.getfield 35, 3) := by decide +kernel
theorem dX6_award_42 : decode cX6_award 42 = .ok (.dup, 1) := by decide +kernel
theorem dX6_award_43 : decode cX6_award 43 = .ok (.getfield 132, 3) := by decide +kernel
theorem dX6_award_46 : decode cX6_award 46 = .ok (.iload_n 2, 1) := by decide +kernel
theorem dX6_award_47 : decode cX6_award 47 = .ok (.iadd, 1) := by decide +kernel
theorem dX6_award_48 : decode cX6_award 48 = .ok (.putfield 132, 3) := by decide +kernel
theorem dX6_award_51 : decode cX6_award 51 = .ok (.return_, 1) := by decide +kernel
theorem dX6_reachesMilestone_0 : decode cX6_reachesMilestone 0 = .ok (.aload_n 0, 1) := by decide +kernel
theorem dX6_reachesMilestone_1 : decode cX6_reachesMilestone 1 = .ok (.getfield 9, 3) := by decide +kernel
theorem dX6_reachesMilestone_4 : decode cX6_reachesMilestone 4 = .ok (.aload_n 0, 1) := by decide +kernel
theorem dX6_reachesMilestone_5 : decode cX6_reachesMilestone 5 = .ok (.getfield 56, 3) := by decide +kernel
theorem dX6_reachesMilestone_8 : decode cX6_reachesMilestone 8 = .ok (.iaload, 1) := by decide +kernel
theorem dX6_reachesMilestone_9 : decode cX6_reachesMilestone 9 = .ok (.istore_n 2, 1) := by decide +kernel
theorem dX6_reachesMilestone_10 : decode cX6_reachesMilestone 10 = .ok (.iload_n 2, 1) := by decide +kernel
theorem dX6_reachesMilestone_11 : decode cX6_reachesMilestone 11 = .ok (.sipush 5000, 3) := by decide +kernel
theorem dX6_reachesMilestone_14 : decode cX6_reachesMilestone 14 = .ok (.if_icmp .ge 16, 3) := by decide +kernel
theorem dX6_reachesMilestone_17 : decode cX6_reachesMilestone 17 = .ok (.iload_n 2, 1) := by decide +kernel
theorem dX6_reachesMilestone_18 : decode cX6_reachesMilestone 18 = .ok (.iload_n 1, 1) := by decide +kernel
theorem dX6_reachesMilestone_19 : decode cX6_reachesMilestone 19 = .ok (.iadd, 1) := by decide +kernel
theorem dX6_reachesMilestone_20 : decode cX6_reachesMilestone 20 = .ok (.sipush 5000, 3) := by decide +kernel
theorem dX6_reachesMilestone_23 : decode cX6_reachesMilestone 23 = .ok (.if_icmp .lt 7, 3) := by decide +kernel
theorem dX6_reachesMilestone_26 : decode cX6_reachesMilestone 26 = .ok (.iconst 1, 1) := by decide +kernel
theorem dX6_reachesMilestone_27 : decode cX6_reachesMilestone 27 = .ok (.goto 4, 3) := by decide +kernel
theorem dX6_reachesMilestone_30 : decode cX6_reachesMilestone 30 = .ok (.iconst 0, 1) := by decide +kernel
theorem dX6_reachesMilestone_31 : decode cX6_reachesMilestone 31 = .ok (.ireturn, 1) := by decide +kernel
theorem dX6_gainExtraBall_0 : decode cX6_gainExtraBall 0 = .ok (.aload_n 0, 1) := by decide +kernel
theorem dX6_gainExtraBall_1 : decode cX6_gainExtraBall 1 = .ok (.getfield 15, 3) := by decide +kernel
theorem dX6_gainExtraBall_4 : decode cX6_gainExtraBall 4 = .ok (.aload_n 0, 1) := by decide +kernel
theorem dX6_gainExtraBall_5 : decode cX6_gainExtraBall 5 = .ok (.getfield 56, 3) := by decide +kernel
theorem dX6_gainExtraBall_8 : decode cX6_gainExtraBall 8 = .ok (.aload_n 0, 1) := by decide +kernel
theorem dX6_gainExtraBall_9 : decode cX6_gainExtraBall 9 = .ok (.getfield 15, 3) := by decide +kernel
theorem dX6_gainExtraBall_12 : decode cX6_gainExtraBall 12 = .ok (.aload_n 0, 1) := by decide +kernel
theorem dX6_gainExtraBall_13 : decode cX6_gainExtraBall 13 = .ok (.getfield 56, 3) := by decide +kernel
theorem dX6_gainExtraBall_16 : decode cX6_gainExtraBall 16 = .ok (.iaload, 1) := by decide +kernel
theorem dX6_gainExtraBall_17 : decode cX6_gainExtraBall 17 = .ok (.iconst 1, 1) := by decide +kernel
theorem dX6_gainExtraBall_18 : decode cX6_gainExtraBall 18 = .ok (.iadd, 1) := by decide +kernel
theorem dX6_gainExtraBall_19 : decode cX6_gainExtraBall 19 = .ok (.iconst 3, 1) := by decide +kernel
theorem dX6_gainExtraBall_20 : decode cX6_gainExtraBall 20 = .ok (.invokestatic 135, 3) := by decide +kernel
theorem dX6_gainExtraBall_23 : decode cX6_gainExtraBall 23 = .ok (.iastore, 1) := by decide +kernel
theorem dX6_gainExtraBall_24 : decode cX6_gainExtraBall 24 = .ok (.return_, 1) := by decide +kernel
theorem dX6_beginNextBall_0 : decode cX6_beginNextBall 0 = .ok (.aload_n 0, 1) := by decide +kernel
theorem dX6_beginNextBall_1 : decode cX6_beginNextBall 1 = .ok (.getfield 15, 3) := by decide +kernel
theorem dX6_beginNextBall_4 : decode cX6_beginNextBall 4 = .ok (.aload_n 0, 1) := by decide +kernel
theorem dX6_beginNextBall_5 : decode cX6_beginNextBall 5 = .ok (.getfield 56, 3) := by decide +kernel
theorem dX6_beginNextBall_8 : decode cX6_beginNextBall 8 = .ok (.iaload, 1) := by decide +kernel
theorem dX6_beginNextBall_9 : decode cX6_beginNextBall 9 = .ok (.ifCond .le 24, 3) := by decide +kernel
theorem dX6_beginNextBall_12 : decode cX6_beginNextBall 12 = .ok (.aload_n 0, 1) := by decide +kernel
theorem dX6_beginNextBall_13 : decode cX6_beginNextBall 13 = .ok (.getfield 15, 3) := by decide +kernel
theorem dX6_beginNextBall_16 : decode cX6_beginNextBall 16 = .ok (.aload_n 0, 1) := by decide +kernel
theorem dX6_beginNextBall_17 : decode cX6_beginNextBall 17 = .ok (.getfield 56, 3) := by decide +kernel
theorem dX6_beginNextBall_20 : decode cX6_beginNextBall 20 = .ok (.dup2, 1) := by decide +kernel
theorem dX6_beginNextBall_21 : decode cX6_beginNextBall 21 = .ok (.iaload, 1) := by decide +kernel
theorem dX6_beginNextBall_22 : decode cX6_beginNextBall 22 = .ok (.iconst 1, 1) := by decide +kernel
theorem dX6_beginNextBall_23 : decode cX6_beginNextBall 23 = .ok (.isub, 1) := by decide +kernel
theorem dX6_beginNextBall_24 : decode cX6_beginNextBall 24 = .ok (.iastore, 1) := by decide +kernel
theorem dX6_beginNextBall_25 : decode cX6_beginNextBall 25 = .ok (.aload_n 0, 1) := by decide +kernel
theorem dX6_beginNextBall_26 : decode cX6_beginNextBall 26 = .ok (.getfield 21, 3) := by decide +kernel
theorem dX6_beginNextBall_29 : decode cX6_beginNextBall 29 = .ok (.invokevirtual 72, 3) := by decide +kernel
theorem dX6_beginNextBall_32 : decode cX6_beginNextBall 32 = .ok (.return_, 1) := by decide +kernel
theorem dX6_beginNextBall_33 : decode cX6_beginNextBall 33 = .ok (.aload_n 0, 1) := by decide +kernel
theorem dX6_beginNextBall_34 : decode cX6_beginNextBall 34 = .ok (.invokevirtual 141, 3) := by decide +kernel
theorem dX6_beginNextBall_37 : decode cX6_beginNextBall 37 = .ok (.istore_n 1, 1) := by decide +kernel
theorem dX6_beginNextBall_38 : decode cX6_beginNextBall 38 = .ok (.iload_n 1, 1) := by decide +kernel
theorem dX6_beginNextBall_39 : decode cX6_beginNextBall 39 = .ok (.iconst (-1), 1) := by decide +kernel
theorem dX6_beginNextBall_40 : decode cX6_beginNextBall 40 = .ok (.if_icmp .ne 8, 3) := by decide +kernel
theorem dX6_beginNextBall_43 : decode cX6_beginNextBall 43 = .ok (.aload_n 0, 1) := by decide +kernel
theorem dX6_beginNextBall_44 : decode cX6_beginNextBall 44 = .ok (.invokevirtual 144, 3) := by decide +kernel
theorem dX6_beginNextBall_47 : decode cX6_beginNextBall 47 = .ok (.return_, 1) := by decide +kernel
theorem dX6_beginNextBall_48 : decode cX6_beginNextBall 48 = .ok (.iload_n 1, 1) := by decide +kernel
theorem dX6_beginNextBall_49 : decode cX6_beginNextBall 49 = .ok (.ifCond .ne 13, 3) := by decide +kernel
theorem dX6_beginNextBall_52 : decode cX6_beginNextBall 52 = .ok (.aload_n 0, 1) := by decide +kernel
theorem dX6_beginNextBall_53 : decode cX6_beginNextBall 53 = .ok (.dup, 1) := by decide +kernel
theorem dX6_beginNextBall_54 : decode cX6_beginNextBall 54 = .ok (.getfield 59, 3) := by decide +kernel
theorem dX6_beginNextBall_57 : decode cX6_beginNextBall 57 = .ok (.iconst 1, 1) := by decide +kernel
theorem dX6_beginNextBall_58 : decode cX6_beginNextBall 58 = .ok (.iadd, 1) := by decide +kernel
theorem dX6_beginNextBall_59 : decode cX6_beginNextBall 59 = .ok (.putfield 59, 3) := by decide +kernel
theorem dX6_beginNextBall_62 : decode cX6_beginNextBall 62 = .ok (.aload_n 0, 1) := by decide +kernel
theorem dX6_beginNextBall_63 : decode cX6_beginNextBall 63 = .ok (.iload_n 1, 1) := by decide +kernel
theorem dX6_beginNextBall_64 : decode cX6_beginNextBall 64 = .ok (.putfield 56, 3) := by decide +kernel
theorem dX6_beginNextBall_67 : decode cX6_beginNextBall 67 = .ok (.aload_n 0, 1) := by decide +kernel
theorem dX6_beginNextBall_68 : decode cX6_beginNextBall 68 = .ok (.getfield 21, 3) := by decide +kernel
theorem dX6_beginNextBall_71 : decode cX6_beginNextBall 71 = .ok (.invokevirtual 72, 3) := by decide +kernel
theorem dX6_beginNextBall_74 : decode cX6_beginNextBall 74 = .ok (.return_, 1) := by decide +kernel
theorem dX6_playerAfterLastBall_0 : decode cX6_playerAfterLastBall 0 = .ok (.aload_n 0, 1) := by decide +kernel
theorem dX6_playerAfterLastBall_1 : decode cX6_playerAfterLastBall 1 = .ok (.getfield 56, 3) := by decide +kernel
theorem dX6_playerAfterLastBall_4 : decode cX6_playerAfterLastBall 4 = .ok (.iconst 1, 1) := by decide +kernel
theorem dX6_playerAfterLastBall_5 : decode cX6_playerAfterLastBall 5 = .ok (.iadd, 1) := by decide +kernel
theorem dX6_playerAfterLastBall_6 : decode cX6_playerAfterLastBall 6 = .ok (.aload_n 0, 1) := by decide +kernel
theorem dX6_playerAfterLastBall_7 : decode cX6_playerAfterLastBall 7 = .ok (.getfield 39, 3) := by decide +kernel
theorem dX6_playerAfterLastBall_10 : decode cX6_playerAfterLastBall 10 = .ok (.if_icmp .ge 10, 3) := by decide +kernel
theorem dX6_playerAfterLastBall_13 : decode cX6_playerAfterLastBall 13 = .ok (.aload_n 0, 1) := by decide +kernel
theorem dX6_playerAfterLastBall_14 : decode cX6_playerAfterLastBall 14 = .ok (.getfield 56, 3) := by decide +kernel
theorem dX6_playerAfterLastBall_17 : decode cX6_playerAfterLastBall 17 = .ok (.iconst 1, 1) := by decide +kernel
theorem dX6_playerAfterLastBall_18 : decode cX6_playerAfterLastBall 18 = .ok (.iadd, 1) := by decide +kernel
theorem dX6_playerAfterLastBall_19 : decode cX6_playerAfterLastBall 19 = .ok (.ireturn, 1) := by decide +kernel
theorem dX6_playerAfterLastBall_20 : decode cX6_playerAfterLastBall 20 = .ok (.aload_n 0, 1) := by decide +kernel
theorem dX6_playerAfterLastBall_21 : decode cX6_playerAfterLastBall 21 = .ok (.getfield 59, 3) := by decide +kernel
theorem dX6_playerAfterLastBall_24 : decode cX6_playerAfterLastBall 24 = .ok (.iconst 3, 1) := by decide +kernel
theorem dX6_playerAfterLastBall_25 : decode cX6_playerAfterLastBall 25 = .ok (.if_icmp .ge 7, 3) := by decide +kernel
theorem dX6_playerAfterLastBall_28 : decode cX6_playerAfterLastBall 28 = .ok (.iconst 0, 1) := by decide +kernel
theorem dX6_playerAfterLastBall_29 : decode cX6_playerAfterLastBall 29 = .ok (.goto 4, 3) := by decide +kernel
theorem dX6_playerAfterLastBall_32 : decode cX6_playerAfterLastBall 32 = .ok (.iconst (-1), 1) := by decide +kernel
theorem dX6_playerAfterLastBall_33 : decode cX6_playerAfterLastBall 33 = .ok (.ireturn, 1) := by decide +kernel
theorem dX6_finishGame_0 : decode cX6_finishGame 0 = .ok (.aload_n 0, 1) := by decide +kernel
theorem dX6_finishGame_1 : decode cX6_finishGame 1 = .ok (.iconst 0, 1) := by decide +kernel
theorem dX6_finishGame_2 : decode cX6_finishGame 2 = .ok (.putfield 49, 3) := by decide +kernel
theorem dX6_finishGame_5 : decode cX6_finishGame 5 = .ok (.iconst 0, 1) := by decide +kernel
theorem dX6_finishGame_6 : decode cX6_finishGame 6 = .ok (.istore_n 1, 1) := by decide +kernel
theorem dX6_finishGame_7 : decode cX6_finishGame 7 = .ok (.iload_n 1, 1) := by decide +kernel
theorem dX6_finishGame_8 : decode cX6_finishGame 8 = .ok (.aload_n 0, 1) := by decide +kernel
theorem dX6_finishGame_9 : decode cX6_finishGame 9 = .ok (.getfield 39, 3) := by decide +kernel
theorem dX6_finishGame_12 : decode cX6_finishGame 12 = .ok (.if_icmp .ge 27, 3) := by decide +kernel
theorem dX6_finishGame_15 : decode cX6_finishGame 15 = .ok (.aload_n 0, 1) := by decide +kernel
theorem dX6_finishGame_16 : decode cX6_finishGame 16 = .ok (.getfield 28, 3) := by decide +kernel
theorem dX6_finishGame_19 : decode cX6_finishGame 19 = .ok (.aload_n 0, 1) := by decide +kernel
theorem dX6_finishGame_20 : decode cX6_finishGame 20 = .ok (.getfield 9, 3) := by decide +kernel
theorem dX6_finishGame_23 : decode cX6_finishGame 23 = .ok (.iload_n 1, 1) := by decide +kernel
theorem dX6_finishGame_24 : decode cX6_finishGame 24 = .ok (.iaload, 1) := by decide +kernel
theorem dX6_finishGame_25 : decode cX6_finishGame 25 = .ok (.iload_n 1, 1) := by decide +kernel
theorem dX6_finishGame_26 : decode cX6_finishGame 26 = .ok (.aload_n 0, 1) := by decide +kernel
theorem dX6_finishGame_27 : decode cX6_finishGame 27 = .ok (.getfield 53, 3) := by decide +kernel
theorem dX6_finishGame_30 : decode cX6_finishGame 30 = .ok (.invokevirtual 147, 3) := by decide +kernel
theorem dX6_finishGame_33 : decode cX6_finishGame 33 = .ok (.iinc 1 1, 3) := by decide +kernel
theorem dX6_finishGame_36 : decode cX6_finishGame 36 = .ok (.goto (-29), 3) := by decide +kernel
theorem dX6_finishGame_39 : decode cX6_finishGame 39 = .ok (.return_, 1) := by decide +kernel
theorem dX6_playerAfterDrain_0 : decode cX6_playerAfterDrain 0 = .ok (.aload_n 0, 1) := by decide +kernel
theorem dX6_playerAfterDrain_1 : decode cX6_playerAfterDrain 1 = .ok (.getfield 21, 3) := by decide +kernel
theorem dX6_playerAfterDrain_4 : decode cX6_playerAfterDrain 4 = .ok (.invokevirtual 108, 3) := by decide +kernel
theorem dX6_playerAfterDrain_7 : decode cX6_playerAfterDrain 7 = .ok (.ifCond .ne 29, 3) := by decide +kernel
theorem dX6_playerAfterDrain_10 : decode cX6_playerAfterDrain 10 = .ok (.aload_n 0, 1) := by decide +kernel
theorem dX6_playerAfterDrain_11 : decode cX6_playerAfterDrain 11 = .ok (.getfield 15, 3) := by decide +kernel
theorem dX6_playerAfterDrain_14 : decode cX6_playerAfterDrain 14 = .ok (.aload_n 0, 1) := by decide +kernel
theorem dX6_playerAfterDrain_15 : decode cX6_playerAfterDrain 15 = .ok (.getfield 56, 3) := by decide +kernel
theorem dX6_playerAfterDrain_18 : decode cX6_playerAfterDrain 18 = .ok (.iaload, 1) := by decide +kernel
theorem dX6_playerAfterDrain_19 : decode cX6_playerAfterDrain 19 = .ok (.ifCond .gt 17, 3) := by decide +kernel
theorem dX6_playerAfterDrain_22 : decode cX6_playerAfterDrain 22 = .ok (.aload_n 0, 1) := by decide +kernel
theorem dX6_playerAfterDrain_23 : decode cX6_playerAfterDrain 23 = .ok (.aload_n 0, 1) := by decide +kernel
theorem dX6_playerAfterDrain_24 : decode cX6_playerAfterDrain 24 = .ok (.getfield 21, 3) := by decide +kernel
theorem dX6_playerAfterDrain_27 : decode cX6_playerAfterDrain 27 = .ok (.invokevirtual 115, 3) := by decide +kernel
theorem dX6_playerAfterDrain_30 : decode cX6_playerAfterDrain 30 = .ok (.invokevirtual 125, 3) := by decide +kernel
theorem dX6_playerAfterDrain_33 : decode cX6_playerAfterDrain 33 = .ok (.ifCond .eq 8, 3) := by decide +kernel
theorem dX6_playerAfterDrain_36 : decode cX6_playerAfterDrain 36 = .ok (.aload_n 0, 1) := by decide +kernel
theorem dX6_playerAfterDrain_37 : decode cX6_playerAfterDrain 37 = .ok (.getfield 56, 3) := by decide +kernel
theorem dX6_playerAfterDrain_40 : decode cX6_playerAfterDrain 40 = .ok (.ireturn, 1) := by decide +kernel
theorem dX6_playerAfterDrain_41 : decode cX6_playerAfterDrain 41 = .ok (.aload_n 0, 1) := by decide +kernel
theorem dX6_playerAfterDrain_42 : decode cX6_playerAfterDrain 42 = .ok (.invokevirtual 141, 3) := by decide +kernel
theorem dX6_playerAfterDrain_45 : decode cX6_playerAfterDrain 45 = .ok (.ireturn, 1) := by decide +kernel
theorem dX6_playerRanked_0 : decode cX6_playerRanked 0 = .ok (.iconst 0, 1) := by decide +kernel
theorem dX6_playerRanked_1 : decode cX6_playerRanked 1 = .ok (.istore_n 2, 1) := by decide +kernel
theorem dX6_playerRanked_2 : decode cX6_playerRanked 2 = .ok (.iload_n 2, 1) := by decide +kernel
theorem dX6_playerRanked_3 : decode cX6_playerRanked 3 = .ok (.aload_n 0, 1) := by decide +kernel
theorem dX6_playerRanked_4 : decode cX6_playerRanked 4 = .ok (.getfield 39, 3) := by decide +kernel
theorem dX6_playerRanked_7 : decode cX6_playerRanked 7 = .ok (.if_icmp .ge 20, 3) := by decide +kernel
theorem dX6_playerRanked_10 : decode cX6_playerRanked 10 = .ok (.aload_n 0, 1) := by decide +kernel
theorem dX6_playerRanked_11 : decode cX6_playerRanked 11 = .ok (.iload_n 2, 1) := by decide +kernel
theorem dX6_playerRanked_12 : decode cX6_playerRanked 12 = .ok (.invokevirtual 151, 3) := by decide +kernel
theorem dX6_playerRanked_15 : decode cX6_playerRanked 15 = .ok (.iload_n 1, 1) := by decide +kernel
theorem dX6_playerRanked_16 : decode cX6_playerRanked 16 = .ok (.if_icmp .ne 5, 3) := by decide +kernel
theorem dX6_playerRanked_19 : decode cX6_playerRanked 19 = .ok (.iload_n 2, 1) := by decide +kernel
theorem dX6_playerRanked_20 : decode cX6_playerRanked 20 = .ok (.ireturn, 1) := by decide +kernel
theorem dX6_playerRanked_21 : decode cX6_playerRanked 21 = .ok (.iinc 2 1, 3) := by decide +kernel
theorem dX6_playerRanked_24 : decode cX6_playerRanked 24 = .ok (.goto (-22), 3) := by decide +kernel
theorem dX6_playerRanked_27 : decode cX6_playerRanked 27 = .ok (.iconst (-1), 1) := by decide +kernel
theorem dX6_playerRanked_28 : decode cX6_playerRanked 28 = .ok (.ireturn, 1) := by decide +kernel
theorem dX6_rankOf_0 : decode cX6_rankOf 0 = .ok (.iconst 0, 1) := by decide +kernel
theorem dX6_rankOf_1 : decode cX6_rankOf 1 = .ok (.istore_n 2, 1) := by decide +kernel
theorem dX6_rankOf_2 : decode cX6_rankOf 2 = .ok (.iconst 0, 1) := by decide +kernel
theorem dX6_rankOf_3 : decode cX6_rankOf 3 = .ok (.istore_n 3, 1) := by decide +kernel
theorem dX6_rankOf_4 : decode cX6_rankOf 4 = .ok (.iload_n 3, 1) := by decide +kernel
theorem dX6_rankOf_5 : decode cX6_rankOf 5 = .ok (.aload_n 0, 1) := by decide +kernel
theorem dX6_rankOf_6 : decode cX6_rankOf 6 = .ok (.getfield 39, 3) := by decide +kernel
theorem dX6_rankOf_9 : decode cX6_rankOf 9 = .ok (.if_icmp .ge 21, 3) := by decide +kernel
theorem dX6_rankOf_12 : decode cX6_rankOf 12 = .ok (.aload_n 0, 1) := by decide +kernel
theorem dX6_rankOf_13 : decode cX6_rankOf 13 = .ok (.iload_n 3, 1) := by decide +kernel
theorem dX6_rankOf_14 : decode cX6_rankOf 14 = .ok (.iload_n 1, 1) := by decide +kernel
theorem dX6_rankOf_15 : decode cX6_rankOf 15 = .ok (.invokevirtual 154, 3) := by decide +kernel
theorem dX6_rankOf_18 : decode cX6_rankOf 18 = .ok (.ifCond .eq 6, 3) := by decide +kernel
theorem dX6_rankOf_21 : decode cX6_rankOf 21 = .ok (.iinc 2 1, 3) := by decide +kernel
theorem dX6_rankOf_24 : decode cX6_rankOf 24 = .ok (.iinc 3 1, 3) := by decide +kernel
theorem dX6_rankOf_27 : decode cX6_rankOf 27 = .ok (.goto (-23), 3) := by decide +kernel
theorem dX6_rankOf_30 : decode cX6_rankOf 30 = .ok (.iload_n 2, 1) := by decide +kernel
theorem dX6_rankOf_31 : decode cX6_rankOf 31 = .ok (.ireturn, 1) := by decide +kernel
theorem dX6_isAhead_0 : decode cX6_isAhead 0 = .ok (.aload_n 0, 1) := by decide +kernel
theorem dX6_isAhead_1 : decode cX6_isAhead 1 = .ok (.getfield 9, 3) := by decide +kernel
theorem dX6_isAhead_4 : decode cX6_isAhead 4 = .ok (.iload_n 1, 1) := by decide +kernel
theorem dX6_isAhead_5 : decode cX6_isAhead 5 = .ok (.iaload, 1) := by decide +kernel
theorem dX6_isAhead_6 : decode cX6_isAhead 6 = .ok (.aload_n 0, 1) := by decide +kernel
theorem dX6_isAhead_7 : decode cX6_isAhead 7 = .ok (.getfield 9, 3) := by decide +kernel
theorem dX6_isAhead_10 : decode cX6_isAhead 10 = .ok (.iload_n 2, 1) := by decide +kernel
theorem dX6_isAhead_11 : decode cX6_isAhead 11 = .ok (.iaload, 1) := by decide +kernel
theorem dX6_isAhead_12 : decode cX6_isAhead 12 = .ok (.if_icmp .eq 24, 3) := by decide +kernel
theorem dX6_isAhead_15 : decode cX6_isAhead 15 = .ok (.aload_n 0, 1) := by decide +kernel
theorem dX6_isAhead_16 : decode cX6_isAhead 16 = .ok (.getfield 9, 3) := by decide +kernel
theorem dX6_isAhead_19 : decode cX6_isAhead 19 = .ok (.iload_n 1, 1) := by decide +kernel
theorem dX6_isAhead_20 : decode cX6_isAhead 20 = .ok (.iaload, 1) := by decide +kernel
theorem dX6_isAhead_21 : decode cX6_isAhead 21 = .ok (.aload_n 0, 1) := by decide +kernel
theorem dX6_isAhead_22 : decode cX6_isAhead 22 = .ok (.getfield 9, 3) := by decide +kernel
theorem dX6_isAhead_25 : decode cX6_isAhead 25 = .ok (.iload_n 2, 1) := by decide +kernel
theorem dX6_isAhead_26 : decode cX6_isAhead 26 = .ok (.iaload, 1) := by decide +kernel
theorem dX6_isAhead_27 : decode cX6_isAhead 27 = .ok (.if_icmp .le 7, 3) := by decide +kernel
theorem dX6_isAhead_30 : decode cX6_isAhead 30 = .ok (.iconst 1, 1) := by decide +kernel
theorem dX6_isAhead_31 : decode cX6_isAhead 31 = .ok (.goto 4, 3) := by decide +kernel
theorem dX6_isAhead_34 : decode cX6_isAhead 34 = .ok (.iconst 0, 1) := by decide +kernel
theorem dX6_isAhead_35 : decode cX6_isAhead 35 = .ok (.ireturn, 1) := by decide +kernel
theorem dX6_isAhead_36 : decode cX6_isAhead 36 = .ok (.aload_n 0, 1) := by decide +kernel
theorem dX6_isAhead_37 : decode cX6_isAhead 37 = .ok (.getfield 15, 3) := by decide +kernel
theorem dX6_isAhead_40 : decode cX6_isAhead 40 = .ok (.iload_n 1, 1) := by decide +kernel
theorem dX6_isAhead_41 : decode cX6_isAhead 41 = .ok (.iaload, 1) := by decide +kernel
theorem dX6_isAhead_42 : decode cX6_isAhead 42 = .ok (.aload_n 0, 1) := by decide +kernel
theorem dX6_isAhead_43 : decode cX6_isAhead 43 = .ok (.getfield 15, 3) := by decide +kernel
theorem dX6_isAhead_46 : decode cX6_isAhead 46 = .ok (.iload_n 2, 1) := by decide +kernel
theorem dX6_isAhead_47 : decode cX6_isAhead 47 = .ok (.iaload, 1) := by decide +kernel
theorem dX6_isAhead_48 : decode cX6_isAhead 48 = .ok (.if_icmp .eq 24, 3) := by decide +kernel
theorem dX6_isAhead_51 : decode cX6_isAhead 51 = .ok (.aload_n 0, 1) := by decide +kernel
theorem dX6_isAhead_52 : decode cX6_isAhead 52 = .ok (.getfield 15, 3) := by decide +kernel
theorem dX6_isAhead_55 : decode cX6_isAhead 55 = .ok (.iload_n 1, 1) := by decide +kernel
theorem dX6_isAhead_56 : decode cX6_isAhead 56 = .ok (.iaload, 1) := by decide +kernel
theorem dX6_isAhead_57 : decode cX6_isAhead 57 = .ok (.aload_n 0, 1) := by decide +kernel
theorem dX6_isAhead_58 : decode cX6_isAhead 58 = .ok (.getfield 15, 3) := by decide +kernel
theorem dX6_isAhead_61 : decode cX6_isAhead 61 = .ok (.iload_n 2, 1) := by decide +kernel
theorem dX6_isAhead_62 : decode cX6_isAhead 62 = .ok (.iaload, 1) := by decide +kernel
theorem dX6_isAhead_63 : decode cX6_isAhead 63 = .ok (.if_icmp .le 7, 3) := by decide +kernel
theorem dX6_isAhead_66 : decode cX6_isAhead 66 = .ok (.iconst 1, 1) := by decide +kernel
theorem dX6_isAhead_67 : decode cX6_isAhead 67 = .ok (.goto 4, 3) := by decide +kernel
theorem dX6_isAhead_70 : decode cX6_isAhead 70 = .ok (.iconst 0, 1) := by decide +kernel
theorem dX6_isAhead_71 : decode cX6_isAhead 71 = .ok (.ireturn, 1) := by decide +kernel
theorem dX6_isAhead_72 : decode cX6_isAhead 72 = .ok (.iload_n 1, 1) := by decide +kernel
theorem dX6_isAhead_73 : decode cX6_isAhead 73 = .ok (.iload_n 2, 1) := by decide +kernel
theorem dX6_isAhead_74 : decode cX6_isAhead 74 = .ok (.if_icmp .ge 7, 3) := by decide +kernel
theorem dX6_isAhead_77 : decode cX6_isAhead 77 = .ok (.iconst 1, 1) := by decide +kernel
theorem dX6_isAhead_78 : decode cX6_isAhead 78 = .ok (.goto 4, 3) := by decide +kernel
theorem dX6_isAhead_81 : decode cX6_isAhead 81 = .ok (.iconst 0, 1) := by decide +kernel
theorem dX6_isAhead_82 : decode cX6_isAhead 82 = .ok (.ireturn, 1) := by decide +kernel
theorem dX6_scoreSum_0 : decode cX6_scoreSum 0 = .ok (.iconst 0, 1) := by decide +kernel
theorem dX6_scoreSum_1 : decode cX6_scoreSum 1 = .ok (.istore_n 1, 1) := by decide +kernel
theorem dX6_scoreSum_2 : decode cX6_scoreSum 2 = .ok (.iconst 0, 1) := by decide +kernel
theorem dX6_scoreSum_3 : decode cX6_scoreSum 3 = .ok (.istore_n 2, 1) := by decide +kernel
theorem dX6_scoreSum_4 : decode cX6_scoreSum 4 = .ok (.iload_n 2, 1) := by decide +kernel
theorem dX6_scoreSum_5 : decode cX6_scoreSum 5 = .ok (.aload_n 0, 1) := by decide +kernel
theorem dX6_scoreSum_6 : decode cX6_scoreSum 6 = .ok (.getfield 39, 3) := by decide +kernel
theorem dX6_scoreSum_9 : decode cX6_scoreSum 9 = .ok (.if_icmp .ge 18, 3) := by decide +kernel
theorem dX6_scoreSum_12 : decode cX6_scoreSum 12 = .ok (.iload_n 1, 1) := by decide +kernel
theorem dX6_scoreSum_13 : decode cX6_scoreSum 13 = .ok (.aload_n 0, 1) := by decide +kernel
theorem dX6_scoreSum_14 : decode cX6_scoreSum 14 = .ok (.getfield 9, 3) := by decide +kernel
theorem dX6_scoreSum_17 : decode cX6_scoreSum 17 = .ok (.iload_n 2, 1) := by decide +kernel
theorem dX6_scoreSum_18 : decode cX6_scoreSum 18 = .ok (.iaload, 1) := by decide +kernel
theorem dX6_scoreSum_19 : decode cX6_scoreSum 19 = .ok (.iadd, 1) := by decide +kernel
theorem dX6_scoreSum_20 : decode cX6_scoreSum 20 = .ok (.istore_n 1, 1) := by decide +kernel
theorem dX6_scoreSum_21 : decode cX6_scoreSum 21 = .ok (.iinc 2 1, 3) := by decide +kernel
theorem dX6_scoreSum_24 : decode cX6_scoreSum 24 = .ok (.goto (-20), 3) := by decide +kernel
theorem dX6_scoreSum_27 : decode cX6_scoreSum 27 = .ok (.iload_n 1, 1) := by decide +kernel
theorem dX6_scoreSum_28 : decode cX6_scoreSum 28 = .ok (.ireturn, 1) := by decide +kernel
theorem dX6_execute_0 : decode cX6_execute 0 = .ok (.aload_n 1, 1) := by decide +kernel
theorem dX6_execute_1 : decode cX6_execute 1 = .ok (.ifnull 12, 3) := by decide +kernel
theorem dX6_execute_4 : decode cX6_execute 4 = .ok (.aload_n 0, 1) := by decide +kernel
theorem dX6_execute_5 : decode cX6_execute 5 = .ok (.aload_n 1, 1) := by decide +kernel
theorem dX6_execute_6 : decode cX6_execute 6 = .ok (.iload_n 2, 1) := by decide +kernel
theorem dX6_execute_7 : decode cX6_execute 7 = .ok (.invokevirtual 158, 3) := by decide +kernel
theorem dX6_execute_10 : decode cX6_execute 10 = .ok (.ifCond .ne 5, 3) := by decide +kernel
theorem dX6_execute_13 : decode cX6_execute 13 = .ok (.iconst 0, 1) := by decide +kernel
theorem dX6_execute_14 : decode cX6_execute 14 = .ok (.ireturn, 1) := by decide +kernel
theorem dX6_execute_15 : decode cX6_execute 15 = .ok (.getstatic 162, 3) := by decide +kernel
theorem dX6_execute_18 : decode cX6_execute 18 = .ok (.aload_n 1, 1) := by decide +kernel
theorem dX6_execute_19 : decode cX6_execute 19 = .ok (.invokevirtual 167, 3) := by decide +kernel
theorem dX6_execute_22 : decode cX6_execute 22 = .ok (.iaload, 1) := by decide +kernel
theorem dX6_execute_23 : decode cX6_execute 23 = .ok (.tableswitch 101 1 7 #[41, 49, 57, 66, 75, 84, 93], 41) := by decide +kernel
theorem dX6_execute_64 : decode cX6_execute 64 = .ok (.aload_n 0, 1) := by decide +kernel
theorem dX6_execute_65 : decode cX6_execute 65 = .ok (.invokevirtual 172, 3) := by decide +kernel
theorem dX6_execute_68 : decode cX6_execute 68 = .ok (.pop, 1) := by decide +kernel
theorem dX6_execute_69 : decode cX6_execute 69 = .ok (.goto 60, 3) := by decide +kernel
theorem dX6_execute_72 : decode cX6_execute 72 = .ok (.aload_n 0, 1) := by decide +kernel
theorem dX6_execute_73 : decode cX6_execute 73 = .ok (.invokevirtual 175, 3) := by decide +kernel
theorem dX6_execute_76 : decode cX6_execute 76 = .ok (.pop, 1) := by decide +kernel
theorem dX6_execute_77 : decode cX6_execute 77 = .ok (.goto 52, 3) := by decide +kernel
theorem dX6_execute_80 : decode cX6_execute 80 = .ok (.aload_n 0, 1) := by decide +kernel
theorem dX6_execute_81 : decode cX6_execute 81 = .ok (.iload_n 2, 1) := by decide +kernel
theorem dX6_execute_82 : decode cX6_execute 82 = .ok (.invokevirtual 178, 3) := by decide +kernel
theorem dX6_execute_85 : decode cX6_execute 85 = .ok (.pop, 1) := by decide +kernel
theorem dX6_execute_86 : decode cX6_execute 86 = .ok (.goto 43, 3) := by decide +kernel
theorem dX6_execute_89 : decode cX6_execute 89 = .ok (.aload_n 0, 1) := by decide +kernel
theorem dX6_execute_90 : decode cX6_execute 90 = .ok (.iload_n 2, 1) := by decide +kernel
theorem dX6_execute_91 : decode cX6_execute 91 = .ok (.invokevirtual 181, 3) := by decide +kernel
theorem dX6_execute_94 : decode cX6_execute 94 = .ok (.pop, 1) := by decide +kernel
theorem dX6_execute_95 : decode cX6_execute 95 = .ok (.goto 34, 3) := by decide +kernel
theorem dX6_execute_98 : decode cX6_execute 98 = .ok (.aload_n 0, 1) := by decide +kernel
theorem dX6_execute_99 : decode cX6_execute 99 = .ok (.iload_n 2, 1) := by decide +kernel
theorem dX6_execute_100 : decode cX6_execute 100 = .ok (.invokevirtual 184, 3) := by decide +kernel
theorem dX6_execute_103 : decode cX6_execute 103 = .ok (.pop, 1) := by decide +kernel
theorem dX6_execute_104 : decode cX6_execute 104 = .ok (.goto 25, 3) := by decide +kernel
theorem dX6_execute_107 : decode cX6_execute 107 = .ok (.aload_n 0, 1) := by decide +kernel
theorem dX6_execute_108 : decode cX6_execute 108 = .ok (.iload_n 2, 1) := by decide +kernel
theorem dX6_execute_109 : decode cX6_execute 109 = .ok (.invokevirtual 187, 3) := by decide +kernel
theorem dX6_execute_112 : decode cX6_execute 112 = .ok (.pop, 1) := by decide +kernel
theorem dX6_execute_113 : decode cX6_execute 113 = .ok (.goto 16, 3) := by decide +kernel
theorem dX6_execute_116 : decode cX6_execute 116 = .ok (.aload_n 0, 1) := by decide +kernel
theorem dX6_execute_117 : decode cX6_execute 117 = .ok (.invokevirtual 189, 3) := by decide +kernel
theorem dX6_execute_120 : decode cX6_execute 120 = .ok (.pop, 1) := by decide +kernel
theorem dX6_execute_121 : decode cX6_execute 121 = .ok (.goto 8, 3) := by decide +kernel
theorem dX6_execute_124 : decode cX6_execute 124 = .ok (.aload_n 0, 1) := by decide +kernel
theorem dX6_execute_125 : decode cX6_execute 125 = .ok (.invokevirtual 192, 3) := by decide +kernel
theorem dX6_execute_128 : decode cX6_execute 128 = .ok (.pop, 1) := by decide +kernel
theorem dX6_execute_129 : decode cX6_execute 129 = .ok (.iconst 1, 1) := by decide +kernel
theorem dX6_execute_130 : decode cX6_execute 130 = .ok (.ireturn, 1) := by decide +kernel
theorem dX6_allows_0 : decode cX6_allows 0 = .ok (.getstatic 162, 3) := by decide +kernel
theorem dX6_allows_3 : decode cX6_allows 3 = .ok (.aload_n 1, 1) := by decide +kernel
theorem dX6_allows_4 : decode cX6_allows 4 = .ok (.invokevirtual 167, 3) := by decide +kernel
theorem dX6_allows_7 : decode cX6_allows 7 = .ok (.iaload, 1) := by decide +kernel
theorem dX6_allows_8 : decode cX6_allows 8 = .ok (.tableswitch 148 1 6 #[40, 45, 65, 86, 107, 128], 40) := by decide +kernel
theorem dX6_allows_48 : decode cX6_allows 48 = .ok (.aload_n 0, 1) := by decide +kernel
theorem dX6_allows_49 : decode cX6_allows 49 = .ok (.invokevirtual 195, 3) := by decide +kernel
theorem dX6_allows_52 : decode cX6_allows 52 = .ok (.ireturn, 1) := by decide +kernel
theorem dX6_allows_53 : decode cX6_allows 53 = .ok (.aload_n 0, 1) := by decide +kernel
theorem dX6_allows_54 : decode cX6_allows 54 = .ok (.getfield 49, 3) := by decide +kernel
theorem dX6_allows_57 : decode cX6_allows 57 = .ok (.ifCond .ne 14, 3) := by decide +kernel
theorem dX6_allows_60 : decode cX6_allows 60 = .ok (.aload_n 0, 1) := by decide +kernel
theorem dX6_allows_61 : decode cX6_allows 61 = .ok (.getfield 39, 3) := by decide +kernel
theorem dX6_allows_64 : decode cX6_allows 64 = .ok (.ifCond .le 7, 3) := by decide +kernel
theorem dX6_allows_67 : decode cX6_allows 67 = .ok (.iconst 1, 1) := by decide +kernel
theorem dX6_allows_68 : decode cX6_allows 68 = .ok (.goto 4, 3) := by decide +kernel
theorem dX6_allows_71 : decode cX6_allows 71 = .ok (.iconst 0, 1) := by decide +kernel
theorem dX6_allows_72 : decode cX6_allows 72 = .ok (.ireturn, 1) := by decide +kernel
theorem dX6_allows_73 : decode cX6_allows 73 = .ok (.aload_n 0, 1) := by decide +kernel
theorem dX6_allows_74 : decode cX6_allows 74 = .ok (.getfield 49, 3) := by decide +kernel
theorem dX6_allows_77 : decode cX6_allows 77 = .ok (.ifCond .eq 15, 3) := by decide +kernel
theorem dX6_allows_80 : decode cX6_allows 80 = .ok (.iload_n 2, 1) := by decide +kernel
theorem dX6_allows_81 : decode cX6_allows 81 = .ok (.iconst 4, 1) := by decide +kernel
theorem dX6_allows_82 : decode cX6_allows 82 = .ok (.invokestatic 198, 3) := by decide +kernel
theorem dX6_allows_85 : decode cX6_allows 85 = .ok (.ifCond .eq 7, 3) := by decide +kernel
theorem dX6_allows_88 : decode cX6_allows 88 = .ok (.iconst 1, 1) := by decide +kernel
theorem dX6_allows_89 : decode cX6_allows 89 = .ok (.goto 4, 3) := by decide +kernel
theorem dX6_allows_92 : decode cX6_allows 92 = .ok (.iconst 0, 1) := by decide +kernel
theorem dX6_allows_93 : decode cX6_allows 93 = .ok (.ireturn, 1) := by decide +kernel
theorem dX6_allows_94 : decode cX6_allows 94 = .ok (.aload_n 0, 1) := by decide +kernel
theorem dX6_allows_95 : decode cX6_allows 95 = .ok (.getfield 49, 3) := by decide +kernel
theorem dX6_allows_98 : decode cX6_allows 98 = .ok (.ifCond .eq 15, 3) := by decide +kernel
theorem dX6_allows_101 : decode cX6_allows 101 = .ok (.iload_n 2, 1) := by decide +kernel
theorem dX6_allows_102 : decode cX6_allows 102 = .ok (.iconst 3, 1) := by decide +kernel
theorem dX6_allows_103 : decode cX6_allows 103 = .ok (.invokestatic 198, 3) := by decide +kernel
theorem dX6_allows_106 : decode cX6_allows 106 = .ok (.ifCond .eq 7, 3) := by decide +kernel
theorem dX6_allows_109 : decode cX6_allows 109 = .ok (.iconst 1, 1) := by decide +kernel
theorem dX6_allows_110 : decode cX6_allows 110 = .ok (.goto 4, 3) := by decide +kernel
theorem dX6_allows_113 : decode cX6_allows 113 = .ok (.iconst 0, 1) := by decide +kernel
theorem dX6_allows_114 : decode cX6_allows 114 = .ok (.ireturn, 1) := by decide +kernel
theorem dX6_allows_115 : decode cX6_allows 115 = .ok (.aload_n 0, 1) := by decide +kernel
theorem dX6_allows_116 : decode cX6_allows 116 = .ok (.getfield 49, 3) := by decide +kernel
theorem dX6_allows_119 : decode cX6_allows 119 = .ok (.ifCond .eq 15, 3) := by decide +kernel
theorem dX6_allows_122 : decode cX6_allows 122 = .ok (.iload_n 2, 1) := by decide +kernel
theorem dX6_allows_123 : decode cX6_allows 123 = .ok (.iconst 5, 1) := by decide +kernel
theorem dX6_allows_124 : decode cX6_allows 124 = .ok (.invokestatic 198, 3) := by decide +kernel
theorem dX6_allows_127 : decode cX6_allows 127 = .ok (.ifCond .eq 7, 3) := by decide +kernel
theorem dX6_allows_130 : decode cX6_allows 130 = .ok (.iconst 1, 1) := by decide +kernel
theorem dX6_allows_131 : decode cX6_allows 131 = .ok (.goto 4, 3) := by decide +kernel
theorem dX6_allows_134 : decode cX6_allows 134 = .ok (.iconst 0, 1) := by decide +kernel
theorem dX6_allows_135 : decode cX6_allows 135 = .ok (.ireturn, 1) := by decide +kernel
theorem dX6_allows_136 : decode cX6_allows 136 = .ok (.aload_n 0, 1) := by decide +kernel
theorem dX6_allows_137 : decode cX6_allows 137 = .ok (.getfield 49, 3) := by decide +kernel
theorem dX6_allows_140 : decode cX6_allows 140 = .ok (.ifCond .eq 14, 3) := by decide +kernel
theorem dX6_allows_143 : decode cX6_allows 143 = .ok (.iload_n 2, 1) := by decide +kernel
theorem dX6_allows_144 : decode cX6_allows 144 = .ok (.invokestatic 201, 3) := by decide +kernel
theorem dX6_allows_147 : decode cX6_allows 147 = .ok (.ifCond .eq 7, 3) := by decide +kernel
theorem dX6_allows_150 : decode cX6_allows 150 = .ok (.iconst 1, 1) := by decide +kernel
theorem dX6_allows_151 : decode cX6_allows 151 = .ok (.goto 4, 3) := by decide +kernel
theorem dX6_allows_154 : decode cX6_allows 154 = .ok (.iconst 0, 1) := by decide +kernel
theorem dX6_allows_155 : decode cX6_allows 155 = .ok (.ireturn, 1) := by decide +kernel
theorem dX6_allows_156 : decode cX6_allows 156 = .ok (.aload_n 0, 1) := by decide +kernel
theorem dX6_allows_157 : decode cX6_allows 157 = .ok (.getfield 49, 3) := by decide +kernel
theorem dX6_allows_160 : decode cX6_allows 160 = .ok (.ireturn, 1) := by decide +kernel
theorem dX7_init_0 : decode cX7_init 0 = .ok (.aload_n 0, 1) := by decide +kernel
theorem dX7_init_1 : decode cX7_init 1 = .ok (.invokespecial 3, 3) := by decide +kernel
theorem dX7_init_4 : decode cX7_init 4 = .ok (.aload_n 0, 1) := by decide +kernel
theorem dX7_init_5 : decode cX7_init 5 = .ok (.iconst 4, 1) := by decide +kernel
theorem dX7_init_6 : decode cX7_init 6 = .ok (.newarray .int, 2) := by decide +kernel
theorem dX7_init_8 : decode cX7_init 8 = .ok (.putfield 9, 3) := by decide +kernel
theorem dX7_init_11 : decode cX7_init 11 = .ok (.return_, 1) := by decide +kernel
theorem dX7_copyFrom_0 : decode cX7_copyFrom 0 = .ok (.aload_n 1, 1) := by decide +kernel
theorem dX7_copyFrom_1 : decode cX7_copyFrom 1 = .ok (.getfield 9, 3) := by decide +kernel
theorem dX7_copyFrom_4 : decode cX7_copyFrom 4 = .ok (.iconst 0, 1) := by decide +kernel
theorem dX7_copyFrom_5 : decode cX7_copyFrom 5 = .ok (.aload_n 0, 1) := by decide +kernel
theorem dX7_copyFrom_6 : decode cX7_copyFrom 6 = .ok (.getfield 9, 3) := by decide +kernel
theorem dX7_copyFrom_9 : decode cX7_copyFrom 9 = .ok (.iconst 0, 1) := by decide +kernel
theorem dX7_copyFrom_10 : decode cX7_copyFrom 10 = .ok (.iconst 4, 1) := by decide +kernel
theorem dX7_copyFrom_11 : decode cX7_copyFrom 11 = .ok (.invokestatic 15, 3) := by decide +kernel
theorem dX7_copyFrom_14 : decode cX7_copyFrom 14 = .ok (.aload_n 0, 1) := by decide +kernel
theorem dX7_copyFrom_15 : decode cX7_copyFrom 15 = .ok (.aload_n 1, 1) := by decide +kernel
theorem dX7_copyFrom_16 : decode cX7_copyFrom 16 = .ok (.getfield 21, 3) := by decide +kernel
theorem dX7_copyFrom_19 : decode cX7_copyFrom 19 = .ok (.putfield 21, 3) := by decide +kernel
theorem dX7_copyFrom_22 : decode cX7_copyFrom 22 = .ok (.aload_n 0, 1) := by decide +kernel
theorem dX7_copyFrom_23 : decode cX7_copyFrom 23 = .ok (.aload_n 1, 1) := by decide +kernel
theorem dX7_copyFrom_24 : decode cX7_copyFrom 24 = .ok (.getfield 25, 3) := by decide +kernel
theorem dX7_copyFrom_27 : decode cX7_copyFrom 27 = .ok (.putfield 25, 3) := by decide +kernel
theorem dX7_copyFrom_30 : decode cX7_copyFrom 30 = .ok (.aload_n 0, 1) := by decide +kernel
theorem dX7_copyFrom_31 : decode cX7_copyFrom 31 = .ok (.aload_n 1, 1) := by decide +kernel
theorem dX7_copyFrom_32 : decode cX7_copyFrom 32 = .ok (.getfield 28, 3) := by decide +kernel
theorem dX7_copyFrom_35 : decode cX7_copyFrom 35 = .ok (.putfield 28, 3) := by decide +kernel
theorem dX7_copyFrom_38 : decode cX7_copyFrom 38 = .ok (.return_, 1) := by decide +kernel
theorem dX7_addUp_0 : decode cX7_addUp 0 = .ok (.iconst 0, 1) := by decide +kernel
theorem dX7_addUp_1 : decode cX7_addUp 1 = .ok (.istore_n 1, 1) := by decide +kernel
theorem dX7_addUp_2 : decode cX7_addUp 2 = .ok (.aload_n 0, 1) := by decide +kernel
theorem dX7_addUp_3 : decode cX7_addUp 3 = .ok (.getfield 9, 3) := by decide +kernel
theorem dX7_addUp_6 : decode cX7_addUp 6 = .ok (.astore_n 2, 1) := by decide +kernel
theorem dX7_addUp_7 : decode cX7_addUp 7 = .ok (.aload_n 2, 1) := by decide +kernel
theorem dX7_addUp_8 : decode cX7_addUp 8 = .ok (.arraylength, 1) := by decide +kernel
theorem dX7_addUp_9 : decode cX7_addUp 9 = .ok (.istore_n 3, 1) := by decide +kernel
theorem dX7_addUp_10 : decode cX7_addUp 10 = .ok (.iconst 0, 1) := by decide +kernel
theorem dX7_addUp_11 : decode cX7_addUp 11 = .ok (.istore 4, 2) := by decide +kernel
theorem dX7_addUp_13 : decode cX7_addUp 13 = .ok (.iload 4, 2) := by decide +kernel
theorem dX7_addUp_15 : decode cX7_addUp 15 = .ok (.iload_n 3, 1) := by decide +kernel
theorem dX7_addUp_16 : decode cX7_addUp 16 = .ok (.if_icmp .ge 20, 3) := by decide +kernel
theorem dX7_addUp_19 : decode cX7_addUp 19 = .ok (.aload_n 2, 1) := by decide +kernel
theorem dX7_addUp_20 : decode cX7_addUp 20 = .ok (.iload 4, 2) := by decide +kernel
theorem dX7_addUp_22 : decode cX7_addUp 22 = .ok (.iaload, 1) := by decide +kernel
theorem dX7_addUp_23 : decode cX7_addUp 23 = .ok (.istore 5, 2) := by decide +kernel
theorem dX7_addUp_25 : decode cX7_addUp 25 = .ok (.iload_n 1, 1) := by decide +kernel
theorem dX7_addUp_26 : decode cX7_addUp 26 = .ok (.iload 5, 2) := by decide +kernel
theorem dX7_addUp_28 : decode cX7_addUp 28 = .ok (.iadd, 1) := by decide +kernel
theorem dX7_addUp_29 : decode cX7_addUp 29 = .ok (.istore_n 1, 1) := by decide +kernel
theorem dX7_addUp_30 : decode cX7_addUp 30 = .ok (.iinc 4 1, 3) := by decide +kernel
theorem dX7_addUp_33 : decode cX7_addUp 33 = .ok (.goto (-20), 3) := by decide +kernel
theorem dX7_addUp_36 : decode cX7_addUp 36 = .ok (.iload_n 1, 1) := by decide +kernel
theorem dX7_addUp_37 : decode cX7_addUp 37 = .ok (.aload_n 0, 1) := by decide +kernel
theorem dX7_addUp_38 : decode cX7_addUp 38 = .ok (.getfield 21, 3) := by decide +kernel
theorem dX7_addUp_41 : decode cX7_addUp 41 = .ok (.if_icmp .ne 7, 3) := by decide +kernel
theorem dX7_addUp_44 : decode cX7_addUp 44 = .ok (.iconst 1, 1) := by decide +kernel
theorem dX7_addUp_45 : decode cX7_addUp 45 = .ok (.goto 4, 3) := by decide +kernel
theorem dX7_addUp_48 : decode cX7_addUp 48 = .ok (.iconst 0, 1) := by decide +kernel
theorem dX7_addUp_49 : decode cX7_addUp 49 = .ok (.ireturn, 1) := by decide +kernel
theorem dX8_init_0 : decode cX8_init 0 = .ok (.aload_n 0, 1) := by decide +kernel
theorem dX8_init_1 : decode cX8_init 1 = .ok (.invokespecial 1, 3) := by decide +kernel
theorem dX8_init_4 : decode cX8_init 4 = .ok (.aload_n 0, 1) := by decide +kernel
theorem dX8_init_5 : decode cX8_init 5 = .ok (.new 7, 3) := by decide +kernel
theorem dX8_init_8 : decode cX8_init 8 = .ok (.dup, 1) := by decide +kernel
theorem dX8_init_9 : decode cX8_init 9 = .ok (.invokespecial 9, 3) := by decide +kernel
theorem dX8_init_12 : decode cX8_init 12 = .ok (.putfield 10, 3) := by decide +kernel
theorem dX8_init_15 : decode cX8_init 15 = .ok (.aload_n 0, 1) := by decide +kernel
theorem dX8_init_16 : decode cX8_init 16 = .ok (.new 16, 3) := by decide +kernel
theorem dX8_init_19 : decode cX8_init 19 = .ok (.dup, 1) := by decide +kernel
theorem dX8_init_20 : decode cX8_init 20 = .ok (.invokespecial 18, 3) := by decide +kernel
theorem dX8_init_23 : decode cX8_init 23 = .ok (.putfield 19, 3) := by decide +kernel
theorem dX8_init_26 : decode cX8_init 26 = .ok (.aload_n 0, 1) := by decide +kernel
theorem dX8_init_27 : decode cX8_init 27 = .ok (.new 7, 3) := by decide +kernel
theorem dX8_init_30 : decode cX8_init 30 = .ok (.dup, 1) := by decide +kernel
theorem dX8_init_31 : decode cX8_init 31 = .ok (.invokespecial 9, 3) := by decide +kernel
theorem dX8_init_34 : decode cX8_init 34 = .ok (.putfield 23, 3) := by decide +kernel
theorem dX8_init_37 : decode cX8_init 37 = .ok (.aload_n 0, 1) := by decide +kernel
theorem dX8_init_38 : decode cX8_init 38 = .ok (.new 26, 3) := by decide +kernel
theorem dX8_init_41 : decode cX8_init 41 = .ok (.dup, 1) := by decide +kernel
theorem dX8_init_42 : decode cX8_init 42 = .ok (.invokespecial 28, 3) := by decide +kernel
theorem dX8_init_45 : decode cX8_init 45 = .ok (.putfield 29, 3) := by decide +kernel
theorem dX8_init_48 : decode cX8_init 48 = .ok (.aload_n 0, 1) := by decide +kernel
theorem dX8_init_49 : decode cX8_init 49 = .ok (.new 33, 3) := by decide +kernel
theorem dX8_init_52 : decode cX8_init 52 = .ok (.dup, 1) := by decide +kernel
theorem dX8_init_53 : decode cX8_init 53 = .ok (.invokespecial 35, 3) := by decide +kernel
theorem dX8_init_56 : decode cX8_init 56 = .ok (.putfield 36, 3) := by decide +kernel
theorem dX8_init_59 : decode cX8_init 59 = .ok (.aload_n 0, 1) := by decide +kernel
theorem dX8_init_60 : decode cX8_init 60 = .ok (.new 40, 3) := by decide +kernel
theorem dX8_init_63 : decode cX8_init 63 = .ok (.dup, 1) := by decide +kernel
theorem dX8_init_64 : decode cX8_init 64 = .ok (.invokespecial 42, 3) := by decide +kernel
theorem dX8_init_67 : decode cX8_init 67 = .ok (.putfield 43, 3) := by decide +kernel
theorem dX8_init_70 : decode cX8_init 70 = .ok (.return_, 1) := by decide +kernel
theorem dX8_addPlayer_0 : decode cX8_addPlayer 0 = .ok (.aload_n 0, 1) := by decide +kernel
theorem dX8_addPlayer_1 : decode cX8_addPlayer 1 = .ok (.getfield 10, 3) := by decide +kernel
theorem dX8_addPlayer_4 : decode cX8_addPlayer 4 = .ok (.invokevirtual 47, 3) := by decide +kernel
theorem dX8_addPlayer_7 : decode cX8_addPlayer 7 = .ok (.ifCond .ne 13, 3) := by decide +kernel
theorem dX8_addPlayer_10 : decode cX8_addPlayer 10 = .ok (.new 51, 3) := by decide +kernel
theorem dX8_addPlayer_13 : decode cX8_addPlayer 13 = .ok (.dup, 1) := by decide +kernel
theorem dX8_addPlayer_14 : decode cX8_addPlayer 14 = .ok (.ldc 53, 2) := by decide +kernel
theorem dX8_addPlayer_16 : decode cX8_addPlayer 16 = .ok (.invokespecial 55, 3) := by decide +kernel
theorem dX8_addPlayer_19 : decode cX8_addPlayer 19 = .ok (.athrow, 1) := by decide +kernel
theorem dX8_addPlayer_20 : decode cX8_addPlayer 20 = .ok (.aload_n 0, 1) := by decide +kernel
theorem dX8_addPlayer_21 : decode cX8_addPlayer 21 = .ok (.getfield 19, 3) := by decide +kernel
theorem dX8_addPlayer_24 : decode cX8_addPlayer 24 = .ok (.aload_n 0, 1) := by decide +kernel
theorem dX8_addPlayer_25 : decode cX8_addPlayer 25 = .ok (.getfield 10, 3) := by decide +kernel
theorem dX8_addPlayer_28 : decode cX8_addPlayer 28 = .ok (.invokevirtual 58, 3) := by decide +kernel
theorem dX8_addPlayer_31 : decode cX8_addPlayer 31 = .ok (.aload_n 0, 1) := by decide +kernel
theorem dX8_addPlayer_32 : decode cX8_addPlayer 32 = .ok (.getfield 10, 3) := by decide +kernel
theorem dX8_addPlayer_35 : decode cX8_addPlayer 35 = .ok (.invokevirtual 62, 3) := by decide +kernel
theorem dX8_addPlayer_38 : decode cX8_addPlayer 38 = .ok (.ireturn, 1) := by decide +kernel
theorem dX8_startGame_0 : decode cX8_startGame 0 = .ok (.aload_n 0, 1) := by decide +kernel
theorem dX8_startGame_1 : decode cX8_startGame 1 = .ok (.getfield 10, 3) := by decide +kernel
theorem dX8_startGame_4 : decode cX8_startGame 4 = .ok (.getfield 66, 3) := by decide +kernel
theorem dX8_startGame_7 : decode cX8_startGame 7 = .ok (.ifCond .eq 13, 3) := by decide +kernel
theorem dX8_startGame_10 : decode cX8_startGame 10 = .ok (.new 51, 3) := by decide +kernel
theorem dX8_startGame_13 : decode cX8_startGame 13 = .ok (.dup, 1) := by decide +kernel
theorem dX8_startGame_14 : decode cX8_startGame 14 = .ok (.ldc 70, 2) := by decide +kernel
theorem dX8_startGame_16 : decode cX8_startGame 16 = .ok (.invokespecial 55, 3) := by decide +kernel
theorem dX8_startGame_19 : decode cX8_startGame 19 = .ok (.athrow, 1) := by decide +kernel
theorem dX8_startGame_20 : decode cX8_startGame 20 = .ok (.aload_n 0, 1) := by decide +kernel
theorem dX8_startGame_21 : decode cX8_startGame 21 = .ok (.getfield 10, 3) := by decide +kernel
theorem dX8_startGame_24 : decode cX8_startGame 24 = .ok (.getfield 72, 3) := by decide +kernel
theorem dX8_startGame_27 : decode cX8_startGame 27 = .ok (.ifCond .ne 13, 3) := by decide +kernel
theorem dX8_startGame_30 : decode cX8_startGame 30 = .ok (.new 76, 3) := by decide +kernel
theorem dX8_startGame_33 : decode cX8_startGame 33 = .ok (.dup, 1) := by decide +kernel
theorem dX8_startGame_34 : decode cX8_startGame 34 = .ok (.ldc 78, 2) := by decide +kernel
theorem dX8_startGame_36 : decode cX8_startGame 36 = .ok (.invokespecial 80, 3) := by decide +kernel
theorem dX8_startGame_39 : decode cX8_startGame 39 = .ok (.athrow, 1) := by decide +kernel
theorem dX8_startGame_40 : decode cX8_startGame 40 = .ok (.aload_n 0, 1) := by decide +kernel
theorem dX8_startGame_41 : decode cX8_startGame 41 = .ok (.getfield 19, 3) := by decide +kernel
theorem dX8_startGame_44 : decode cX8_startGame 44 = .ok (.aload_n 0, 1) := by decide +kernel
theorem dX8_startGame_45 : decode cX8_startGame 45 = .ok (.getfield 10, 3) := by decide +kernel
theorem dX8_startGame_48 : decode cX8_startGame 48 = .ok (.invokevirtual 58, 3) := by decide +kernel
theorem dX8_startGame_51 : decode cX8_startGame 51 = .ok (.aload_n 0, 1) := by decide +kernel
theorem dX8_startGame_52 : decode cX8_startGame 52 = .ok (.getfield 10, 3) := by decide +kernel
theorem dX8_startGame_55 : decode cX8_startGame 55 = .ok (.invokevirtual 81, 3) := by decide +kernel
theorem dX8_startGame_58 : decode cX8_startGame 58 = .ok (.ireturn, 1) := by decide +kernel
theorem dX8_hitLane_0 : decode cX8_hitLane 0 = .ok (.iload_n 1, 1) := by decide +kernel
theorem dX8_hitLane_1 : decode cX8_hitLane 1 = .ok (.iconst 4, 1) := by decide +kernel
theorem dX8_hitLane_2 : decode cX8_hitLane 2 = .ok (.invokestatic 84, 3) := by decide +kernel
theorem dX8_hitLane_5 : decode cX8_hitLane 5 = .ok (.aload_n 0, 1) := by decide +kernel
theorem dX8_hitLane_6 : decode cX8_hitLane 6 = .ok (.invokevirtual 88, 3) := by decide +kernel
theorem dX8_hitLane_9 : decode cX8_hitLane 9 = .ok (.aload_n 0, 1) := by decide +kernel
theorem dX8_hitLane_10 : decode cX8_hitLane 10 = .ok (.getfield 19, 3) := by decide +kernel
theorem dX8_hitLane_13 : decode cX8_hitLane 13 = .ok (.aload_n 0, 1) := by decide +kernel
theorem dX8_hitLane_14 : decode cX8_hitLane 14 = .ok (.getfield 10, 3) := by decide +kernel
theorem dX8_hitLane_17 : decode cX8_hitLane 17 = .ok (.invokevirtual 58, 3) := by decide +kernel
theorem dX8_hitLane_20 : decode cX8_hitLane 20 = .ok (.aload_n 0, 1) := by decide +kernel
theorem dX8_hitLane_21 : decode cX8_hitLane 21 = .ok (.getfield 10, 3) := by decide +kernel
theorem dX8_hitLane_24 : decode cX8_hitLane 24 = .ok (.iload_n 1, 1) := by decide +kernel
theorem dX8_hitLane_25 : decode cX8_hitLane 25 = .ok (.invokevirtual 91, 3) := by decide +kernel
theorem dX8_hitLane_28 : decode cX8_hitLane 28 = .ok (.ireturn, 1) := by decide +kernel
theorem dX8_hitBumper_0 : decode cX8_hitBumper 0 = .ok (.iload_n 1, 1) := by decide +kernel
theorem dX8_hitBumper_1 : decode cX8_hitBumper 1 = .ok (.iconst 3, 1) := by decide +kernel
theorem dX8_hitBumper_2 : decode cX8_hitBumper 2 = .ok (.invokestatic 84, 3) := by decide +kernel
theorem dX8_hitBumper_5 : decode cX8_hitBumper 5 = .ok (.aload_n 0, 1) := by decide +kernel
theorem dX8_hitBumper_6 : decode cX8_hitBumper 6 = .ok (.invokevirtual 88, 3) := by decide +kernel
theorem dX8_hitBumper_9 : decode cX8_hitBumper 9 = .ok (.aload_n 0, 1) := by decide +kernel
theorem dX8_hitBumper_10 : decode cX8_hitBumper 10 = .ok (.getfield 19, 3) := by decide +kernel
theorem dX8_hitBumper_13 : decode cX8_hitBumper 13 = .ok (.aload_n 0, 1) := by decide +kernel
theorem dX8_hitBumper_14 : decode cX8_hitBumper 14 = .ok (.getfield 10, 3) := by decide +kernel
theorem dX8_hitBumper_17 : decode cX8_hitBumper 17 = .ok (.invokevirtual 58, 3) := by decide +kernel
theorem dX8_hitBumper_20 : decode cX8_hitBumper 20 = .ok (.aload_n 0, 1) := by decide +kernel
theorem dX8_hitBumper_21 : decode cX8_hitBumper 21 = .ok (.getfield 10, 3) := by decide +kernel
theorem dX8_hitBumper_24 : decode cX8_hitBumper 24 = .ok (.iload_n 1, 1) := by decide +kernel
theorem dX8_hitBumper_25 : decode cX8_hitBumper 25 = .ok (.invokevirtual 95, 3) := by decide +kernel
theorem dX8_hitBumper_28 : decode cX8_hitBumper 28 = .ok (.ireturn, 1) := by decide +kernel
theorem dX8_hitTarget_0 : decode cX8_hitTarget 0 = .ok (.iload_n 1, 1) := by decide +kernel
theorem dX8_hitTarget_1 : decode cX8_hitTarget 1 = .ok (.iconst 5, 1) := by decide +kernel
theorem dX8_hitTarget_2 : decode cX8_hitTarget 2 = .ok (.invokestatic 84, 3) := by decide +kernel
theorem dX8_hitTarget_5 : decode cX8_hitTarget 5 = .ok (.aload_n 0, 1) := by decide +kernel
theorem dX8_hitTarget_6 : decode cX8_hitTarget 6 = .ok (.invokevirtual 88, 3) := by decide +kernel
theorem dX8_hitTarget_9 : decode cX8_hitTarget 9 = .ok (.aload_n 0, 1) := by decide +kernel
theorem dX8_hitTarget_10 : decode cX8_hitTarget 10 = .ok (.getfield 19, 3) := by decide +kernel
theorem dX8_hitTarget_13 : decode cX8_hitTarget 13 = .ok (.aload_n 0, 1) := by decide +kernel
theorem dX8_hitTarget_14 : decode cX8_hitTarget 14 = .ok (.getfield 10, 3) := by decide +kernel
theorem dX8_hitTarget_17 : decode cX8_hitTarget 17 = .ok (.invokevirtual 58, 3) := by decide +kernel
theorem dX8_hitTarget_20 : decode cX8_hitTarget 20 = .ok (.aload_n 0, 1) := by decide +kernel
theorem dX8_hitTarget_21 : decode cX8_hitTarget 21 = .ok (.getfield 10, 3) := by decide +kernel
theorem dX8_hitTarget_24 : decode cX8_hitTarget 24 = .ok (.iload_n 1, 1) := by decide +kernel
theorem dX8_hitTarget_25 : decode cX8_hitTarget 25 = .ok (.invokevirtual 98, 3) := by decide +kernel
theorem dX8_hitTarget_28 : decode cX8_hitTarget 28 = .ok (.ireturn, 1) := by decide +kernel
theorem dX8_nudge_0 : decode cX8_nudge 0 = .ok (.iload_n 1, 1) := by decide +kernel
theorem dX8_nudge_1 : decode cX8_nudge 1 = .ok (.invokestatic 101, 3) := by decide +kernel
theorem dX8_nudge_4 : decode cX8_nudge 4 = .ok (.ifCond .ne 13, 3) := by decide +kernel
theorem dX8_nudge_7 : decode cX8_nudge 7 = .ok (.new 105, 3) := by decide +kernel
theorem dX8_nudge_10 : decode cX8_nudge 10 = .ok (.dup, 1) := by decide +kernel
theorem dX8_nudge_11 : decode cX8_nudge 11 = .ok (.ldc 107, 2) := by decide +kernel
theorem dX8_nudge_13 : decode cX8_nudge 13 = .ok (.invokespecial 109, 3) := by decide +kernel
theorem dX8_nudge_16 : decode cX8_nudge 16 = .ok (.athrow, 1) := by decide +kernel
theorem dX8_nudge_17 : decode cX8_nudge 17 = .ok (.aload_n 0, 1) := by decide +kernel
theorem dX8_nudge_18 : decode cX8_nudge 18 = .ok (.invokevirtual 88, 3) := by decide +kernel
theorem dX8_nudge_21 : decode cX8_nudge 21 = .ok (.aload_n 0, 1) := by decide +kernel
theorem dX8_nudge_22 : decode cX8_nudge 22 = .ok (.getfield 19, 3) := by decide +kernel
theorem dX8_nudge_25 : decode cX8_nudge 25 = .ok (.aload_n 0, 1) := by decide +kernel
theorem dX8_nudge_26 : decode cX8_nudge 26 = .ok (.getfield 10, 3) := by decide +kernel
theorem dX8_nudge_29 : decode cX8_nudge 29 = .ok (.invokevirtual 58, 3) := by decide +kernel
theorem dX8_nudge_32 : decode cX8_nudge 32 = .ok (.aload_n 0, 1) := by decide +kernel
theorem dX8_nudge_33 : decode cX8_nudge 33 = .ok (.getfield 10, 3) := by decide +kernel
theorem dX8_nudge_36 : decode cX8_nudge 36 = .ok (.iload_n 1, 1) := by decide +kernel
theorem dX8_nudge_37 : decode cX8_nudge 37 = .ok (.invokevirtual 110, 3) := by decide +kernel
theorem dX8_nudge_40 : decode cX8_nudge 40 = .ok (.ireturn, 1) := by decide +kernel
theorem dX8_drain_0 : decode cX8_drain 0 = .ok (.aload_n 0, 1) := by decide +kernel
theorem dX8_drain_1 : decode cX8_drain 1 = .ok (.invokevirtual 88, 3) := by decide +kernel
theorem dX8_drain_4 : decode cX8_drain 4 = .ok (.aload_n 0, 1) := by decide +kernel
theorem dX8_drain_5 : decode cX8_drain 5 = .ok (.getfield 19, 3) := by decide +kernel
theorem dX8_drain_8 : decode cX8_drain 8 = .ok (.aload_n 0, 1) := by decide +kernel
theorem dX8_drain_9 : decode cX8_drain 9 = .ok (.getfield 10, 3) := by decide +kernel
theorem dX8_drain_12 : decode cX8_drain 12 = .ok (.invokevirtual 58, 3) := by decide +kernel
theorem dX8_drain_15 : decode cX8_drain 15 = .ok (.aload_n 0, 1) := by decide +kernel
theorem dX8_drain_16 : decode cX8_drain 16 = .ok (.getfield 10, 3) := by decide +kernel
theorem dX8_drain_19 : decode cX8_drain 19 = .ok (.invokevirtual 113, 3) := by decide +kernel
theorem dX8_drain_22 : decode cX8_drain 22 = .ok (.ireturn, 1) := by decide +kernel
theorem dX8_quitGame_0 : decode cX8_quitGame 0 = .ok (.aload_n 0, 1) := by decide +kernel
theorem dX8_quitGame_1 : decode cX8_quitGame 1 = .ok (.invokevirtual 88, 3) := by decide +kernel
theorem dX8_quitGame_4 : decode cX8_quitGame 4 = .ok (.aload_n 0, 1) := by decide +kernel
theorem dX8_quitGame_5 : decode cX8_quitGame 5 = .ok (.getfield 19, 3) := by decide +kernel
theorem dX8_quitGame_8 : decode cX8_quitGame 8 = .ok (.aload_n 0, 1) := by decide +kernel
theorem dX8_quitGame_9 : decode cX8_quitGame 9 = .ok (.getfield 10, 3) := by decide +kernel
theorem dX8_quitGame_12 : decode cX8_quitGame 12 = .ok (.invokevirtual 58, 3) := by decide +kernel
theorem dX8_quitGame_15 : decode cX8_quitGame 15 = .ok (.aload_n 0, 1) := by decide +kernel
theorem dX8_quitGame_16 : decode cX8_quitGame 16 = .ok (.getfield 10, 3) := by decide +kernel
theorem dX8_quitGame_19 : decode cX8_quitGame 19 = .ok (.invokevirtual 116, 3) := by decide +kernel
theorem dX8_quitGame_22 : decode cX8_quitGame 22 = .ok (.ireturn, 1) := by decide +kernel
theorem dX8_isRunning_0 : decode cX8_isRunning 0 = .ok (.aload_n 0, 1) := by decide +kernel
theorem dX8_isRunning_1 : decode cX8_isRunning 1 = .ok (.getfield 10, 3) := by decide +kernel
theorem dX8_isRunning_4 : decode cX8_isRunning 4 = .ok (.getfield 66, 3) := by decide +kernel
theorem dX8_isRunning_7 : decode cX8_isRunning 7 = .ok (.ireturn, 1) := by decide +kernel
theorem dX8_gameCount_0 : decode cX8_gameCount 0 = .ok (.aload_n 0, 1) := by decide +kernel
theorem dX8_gameCount_1 : decode cX8_gameCount 1 = .ok (.getfield 10, 3) := by decide +kernel
theorem dX8_gameCount_4 : decode cX8_gameCount 4 = .ok (.getfield 119, 3) := by decide +kernel
theorem dX8_gameCount_7 : decode cX8_gameCount 7 = .ok (.ireturn, 1) := by decide +kernel
theorem dX8_playerCount_0 : decode cX8_playerCount 0 = .ok (.aload_n 0, 1) := by decide +kernel
theorem dX8_playerCount_1 : decode cX8_playerCount 1 = .ok (.getfield 10, 3) := by decide +kernel
theorem dX8_playerCount_4 : decode cX8_playerCount 4 = .ok (.getfield 72, 3) := by decide +kernel
theorem dX8_playerCount_7 : decode cX8_playerCount 7 = .ok (.ireturn, 1) := by decide +kernel
theorem dX8_currentPlayer_0 : decode cX8_currentPlayer 0 = .ok (.aload_n 0, 1) := by decide +kernel
theorem dX8_currentPlayer_1 : decode cX8_currentPlayer 1 = .ok (.invokevirtual 88, 3) := by decide +kernel
theorem dX8_currentPlayer_4 : decode cX8_currentPlayer 4 = .ok (.aload_n 0, 1) := by decide +kernel
theorem dX8_currentPlayer_5 : decode cX8_currentPlayer 5 = .ok (.getfield 10, 3) := by decide +kernel
theorem dX8_currentPlayer_8 : decode cX8_currentPlayer 8 = .ok (.getfield 122, 3) := by decide +kernel
theorem dX8_currentPlayer_11 : decode cX8_currentPlayer 11 = .ok (.ireturn, 1) := by decide +kernel
theorem dX8_ballNumber_0 : decode cX8_ballNumber 0 = .ok (.aload_n 0, 1) := by decide +kernel
theorem dX8_ballNumber_1 : decode cX8_ballNumber 1 = .ok (.invokevirtual 88, 3) := by decide +kernel
theorem dX8_ballNumber_4 : decode cX8_ballNumber 4 = .ok (.aload_n 0, 1) := by decide +kernel
theorem dX8_ballNumber_5 : decode cX8_ballNumber 5 = .ok (.getfield 10, 3) := by decide +kernel
theorem dX8_ballNumber_8 : decode cX8_ballNumber 8 = .ok (.getfield 125, 3) := by decide +kernel
theorem dX8_ballNumber_11 : decode cX8_ballNumber 11 = .ok (.ireturn, 1) := by decide +kernel
theorem dX8_score_0 : decode cX8_score 0 = .ok (.iload_n 1, 1) := by decide +kernel
theorem dX8_score_1 : decode cX8_score 1 = .ok (.aload_n 0, 1) := by decide +kernel
theorem dX8_score_2 : decode cX8_score 2 = .ok (.getfield 10, 3) := by decide +kernel
theorem dX8_score_5 : decode cX8_score 5 = .ok (.getfield 72, 3) := by decide +kernel
theorem dX8_score_8 : decode cX8_score 8 = .ok (.invokestatic 84, 3) := by decide +kernel
theorem dX8_score_11 : decode cX8_score 11 = .ok (.aload_n 0, 1) := by decide +kernel
theorem dX8_score_12 : decode cX8_score 12 = .ok (.getfield 10, 3) := by decide +kernel
theorem dX8_score_15 : decode cX8_score 15 = .ok (.getfield 128, 3) := by decide +kernel
theorem dX8_score_18 : decode cX8_score 18 = .ok (.iload_n 1, 1) := by decide +kernel
theorem dX8_score_19 : decode cX8_score 19 = .ok (.iaload, 1) := by decide +kernel
theorem dX8_score_20 : decode cX8_score 20 = .ok (.ireturn, 1) := by decide +kernel
theorem dX8_extraBalls_0 : decode cX8_extraBalls 0 = .ok (.iload_n 1, 1) := by decide +kernel
theorem dX8_extraBalls_1 : decode cX8_extraBalls 1 = .ok (.aload_n 0, 1) := by decide +kernel
theorem dX8_extraBalls_2 : decode cX8_extraBalls 2 = .ok (.getfield 10, 3) := by decide +kernel
theorem dX8_extraBalls_5 : decode cX8_extraBalls 5 = .ok (.getfield 72, 3) := by decide +kernel
theorem dX8_extraBalls_8 : decode cX8_extraBalls 8 = .ok (.invokestatic 84, 3) := by decide +kernel
theorem dX8_extraBalls_11 : decode cX8_extraBalls 11 = .ok (.aload_n 0, 1) := by decide +kernel
theorem dX8_extraBalls_12 : decode cX8_extraBalls 12 = .ok (.getfield 10, 3) := by decide +kernel
theorem dX8_extraBalls_15 : decode cX8_extraBalls 15 = .ok (.getfield 132, 3) := by decide +kernel
theorem dX8_extraBalls_18 : decode cX8_extraBalls 18 = .ok (.iload_n 1, 1) := by decide +kernel
theorem dX8_extraBalls_19 : decode cX8_extraBalls 19 = .ok (.iaload, 1) := by decide +kernel
theorem dX8_extraBalls_20 : decode cX8_extraBalls 20 = .ok (.ireturn, 1) := by decide +kernel
theorem dX8_playerAtRank_0 : decode cX8_playerAtRank 0 = .ok (.aload_n 0, 1) := by decide +kernel
theorem dX8_playerAtRank_1 : decode cX8_playerAtRank 1 = .ok (.getfield 10, 3) := by decide +kernel
theorem dX8_playerAtRank_4 : decode cX8_playerAtRank 4 = .ok (.iload_n 1, 1) := by decide +kernel
theorem dX8_playerAtRank_5 : decode cX8_playerAtRank 5 = .ok (.invokevirtual 135, 3) := by decide +kernel
theorem dX8_playerAtRank_8 : decode cX8_playerAtRank 8 = .ok (.istore_n 2, 1) := by decide +kernel
theorem dX8_playerAtRank_9 : decode cX8_playerAtRank 9 = .ok (.iload_n 2, 1) := by decide +kernel
theorem dX8_playerAtRank_10 : decode cX8_playerAtRank 10 = .ok (.iconst (-1), 1) := by decide +kernel
theorem dX8_playerAtRank_11 : decode cX8_playerAtRank 11 = .ok (.if_icmp .ne 13, 3) := by decide +kernel
theorem dX8_playerAtRank_14 : decode cX8_playerAtRank 14 = .ok (.new 76, 3) := by decide +kernel
theorem dX8_playerAtRank_17 : decode cX8_playerAtRank 17 = .ok (.dup, 1) := by decide +kernel
theorem dX8_playerAtRank_18 : decode cX8_playerAtRank 18 = .ok (.ldc 138, 2) := by decide +kernel
theorem dX8_playerAtRank_20 : decode cX8_playerAtRank 20 = .ok (.invokespecial 80, 3) := by decide +kernel
theorem dX8_playerAtRank_23 : decode cX8_playerAtRank 23 = .ok (.athrow, 1) := by decide +kernel
theorem dX8_playerAtRank_24 : decode cX8_playerAtRank 24 = .ok (.iload_n 2, 1) := by decide +kernel
theorem dX8_playerAtRank_25 : decode cX8_playerAtRank 25 = .ok (.ireturn, 1) := by decide +kernel
theorem dX8_multiplier_0 : decode cX8_multiplier 0 = .ok (.aload_n 0, 1) := by decide +kernel
theorem dX8_multiplier_1 : decode cX8_multiplier 1 = .ok (.invokevirtual 88, 3) := by decide +kernel
theorem dX8_multiplier_4 : decode cX8_multiplier 4 = .ok (.aload_n 0, 1) := by decide +kernel
theorem dX8_multiplier_5 : decode cX8_multiplier 5 = .ok (.getfield 10, 3) := by decide +kernel
theorem dX8_multiplier_8 : decode cX8_multiplier 8 = .ok (.getfield 140, 3) := by decide +kernel
theorem dX8_multiplier_11 : decode cX8_multiplier 11 = .ok (.getfield 143, 3) := by decide +kernel
theorem dX8_multiplier_14 : decode cX8_multiplier 14 = .ok (.ireturn, 1) := by decide +kernel
theorem dX8_isLit_0 : decode cX8_isLit 0 = .ok (.iload_n 1, 1) := by decide +kernel
theorem dX8_isLit_1 : decode cX8_isLit 1 = .ok (.iconst 4, 1) := by decide +kernel
theorem dX8_isLit_2 : decode cX8_isLit 2 = .ok (.invokestatic 84, 3) := by decide +kernel
theorem dX8_isLit_5 : decode cX8_isLit 5 = .ok (.aload_n 0, 1) := by decide +kernel
theorem dX8_isLit_6 : decode cX8_isLit 6 = .ok (.invokevirtual 88, 3) := by decide +kernel
theorem dX8_isLit_9 : decode cX8_isLit 9 = .ok (.aload_n 0, 1) := by decide +kernel
theorem dX8_isLit_10 : decode cX8_isLit 10 = .ok (.getfield 10, 3) := by decide +kernel
theorem dX8_isLit_13 : decode cX8_isLit 13 = .ok (.getfield 140, 3) := by decide +kernel
theorem dX8_isLit_16 : decode cX8_isLit 16 = .ok (.getfield 146, 3) := by decide +kernel
theorem dX8_isLit_19 : decode cX8_isLit 19 = .ok (.iload_n 1, 1) := by decide +kernel
theorem dX8_isLit_20 : decode cX8_isLit 20 = .ok (.baload, 1) := by decide +kernel
theorem dX8_isLit_21 : decode cX8_isLit 21 = .ok (.ireturn, 1) := by decide +kernel
theorem dX8_bumperValue_0 : decode cX8_bumperValue 0 = .ok (.iload_n 1, 1) := by decide +kernel
theorem dX8_bumperValue_1 : decode cX8_bumperValue 1 = .ok (.iconst 3, 1) := by decide +kernel
theorem dX8_bumperValue_2 : decode cX8_bumperValue 2 = .ok (.invokestatic 84, 3) := by decide +kernel
theorem dX8_bumperValue_5 : decode cX8_bumperValue 5 = .ok (.aload_n 0, 1) := by decide +kernel
theorem dX8_bumperValue_6 : decode cX8_bumperValue 6 = .ok (.invokevirtual 88, 3) := by decide +kernel
theorem dX8_bumperValue_9 : decode cX8_bumperValue 9 = .ok (.aload_n 0, 1) := by decide +kernel
theorem dX8_bumperValue_10 : decode cX8_bumperValue 10 = .ok (.getfield 10, 3) := by decide +kernel
theorem dX8_bumperValue_13 : decode cX8_bumperValue 13 = .ok (.getfield 140, 3) := by decide +kernel
theorem dX8_bumperValue_16 : decode cX8_bumperValue 16 = .ok (.getfield 150, 3) := by decide +kernel
theorem dX8_bumperValue_19 : decode cX8_bumperValue 19 = .ok (.iload_n 1, 1) := by decide +kernel
theorem dX8_bumperValue_20 : decode cX8_bumperValue 20 = .ok (.iaload, 1) := by decide +kernel
theorem dX8_bumperValue_21 : decode cX8_bumperValue 21 = .ok (.ireturn, 1) := by decide +kernel
theorem dX8_isDown_0 : decode cX8_isDown 0 = .ok (.iload_n 1, 1) := by decide +kernel
theorem dX8_isDown_1 : decode cX8_isDown 1 = .ok (.iconst 5, 1) := by decide +kernel
theorem dX8_isDown_2 : decode cX8_isDown 2 = .ok (.invokestatic 84, 3) := by decide +kernel
theorem dX8_isDown_5 : decode cX8_isDown 5 = .ok (.aload_n 0, 1) := by decide +kernel
theorem dX8_isDown_6 : decode cX8_isDown 6 = .ok (.invokevirtual 88, 3) := by decide +kernel
theorem dX8_isDown_9 : decode cX8_isDown 9 = .ok (.aload_n 0, 1) := by decide +kernel
theorem dX8_isDown_10 : decode cX8_isDown 10 = .ok (.getfield 10, 3) := by decide +kernel
theorem dX8_isDown_13 : decode cX8_isDown 13 = .ok (.getfield 140, 3) := by decide +kernel
theorem dX8_isDown_16 : decode cX8_isDown 16 = .ok (.getfield 153, 3) := by decide +kernel
theorem dX8_isDown_19 : decode cX8_isDown 19 = .ok (.iload_n 1, 1) := by decide +kernel
theorem dX8_isDown_20 : decode cX8_isDown 20 = .ok (.baload, 1) := by decide +kernel
theorem dX8_isDown_21 : decode cX8_isDown 21 = .ok (.ireturn, 1) := by decide +kernel
theorem dX8_completedBanks_0 : decode cX8_completedBanks 0 = .ok (.aload_n 0, 1) := by decide +kernel
theorem dX8_completedBanks_1 : decode cX8_completedBanks 1 = .ok (.invokevirtual 88, 3) := by decide +kernel
theorem dX8_completedBanks_4 : decode cX8_completedBanks 4 = .ok (.aload_n 0, 1) := by decide +kernel
theorem dX8_completedBanks_5 : decode cX8_completedBanks 5 = .ok (.getfield 10, 3) := by decide +kernel
theorem dX8_completedBanks_8 : decode cX8_completedBanks 8 = .ok (.getfield 140, 3) := by decide +kernel
theorem dX8_completedBanks_11 : decode cX8_completedBanks 11 = .ok (.getfield 156, 3) := by decide +kernel
theorem dX8_completedBanks_14 : decode cX8_completedBanks 14 = .ok (.ireturn, 1) := by decide +kernel
theorem dX8_bonusUnits_0 : decode cX8_bonusUnits 0 = .ok (.aload_n 0, 1) := by decide +kernel
theorem dX8_bonusUnits_1 : decode cX8_bonusUnits 1 = .ok (.invokevirtual 88, 3) := by decide +kernel
theorem dX8_bonusUnits_4 : decode cX8_bonusUnits 4 = .ok (.aload_n 0, 1) := by decide +kernel
theorem dX8_bonusUnits_5 : decode cX8_bonusUnits 5 = .ok (.getfield 10, 3) := by decide +kernel
theorem dX8_bonusUnits_8 : decode cX8_bonusUnits 8 = .ok (.getfield 140, 3) := by decide +kernel
theorem dX8_bonusUnits_11 : decode cX8_bonusUnits 11 = .ok (.getfield 159, 3) := by decide +kernel
theorem dX8_bonusUnits_14 : decode cX8_bonusUnits 14 = .ok (.ireturn, 1) := by decide +kernel
theorem dX8_tiltMeter_0 : decode cX8_tiltMeter 0 = .ok (.aload_n 0, 1) := by decide +kernel
theorem dX8_tiltMeter_1 : decode cX8_tiltMeter 1 = .ok (.invokevirtual 88, 3) := by decide +kernel
theorem dX8_tiltMeter_4 : decode cX8_tiltMeter 4 = .ok (.aload_n 0, 1) := by decide +kernel
theorem dX8_tiltMeter_5 : decode cX8_tiltMeter 5 = .ok (.getfield 10, 3) := by decide +kernel
theorem dX8_tiltMeter_8 : decode cX8_tiltMeter 8 = .ok (.getfield 140, 3) := by decide +kernel
theorem dX8_tiltMeter_11 : decode cX8_tiltMeter 11 = .ok (.getfield 162, 3) := by decide +kernel
theorem dX8_tiltMeter_14 : decode cX8_tiltMeter 14 = .ok (.ireturn, 1) := by decide +kernel
theorem dX8_warnings_0 : decode cX8_warnings 0 = .ok (.aload_n 0, 1) := by decide +kernel
theorem dX8_warnings_1 : decode cX8_warnings 1 = .ok (.invokevirtual 88, 3) := by decide +kernel
theorem dX8_warnings_4 : decode cX8_warnings 4 = .ok (.aload_n 0, 1) := by decide +kernel
theorem dX8_warnings_5 : decode cX8_warnings 5 = .ok (.getfield 10, 3) := by decide +kernel
theorem dX8_warnings_8 : decode cX8_warnings 8 = .ok (.getfield 140, 3) := by decide +kernel
theorem dX8_warnings_11 : decode cX8_warnings 11 = .ok (.getfield 165, 3) := by decide +kernel
theorem dX8_warnings_14 : decode cX8_warnings 14 = .ok (.ireturn, 1) := by decide +kernel
theorem dX8_isTilted_0 : decode cX8_isTilted 0 = .ok (.aload_n 0, 1) := by decide +kernel
theorem dX8_isTilted_1 : decode cX8_isTilted 1 = .ok (.invokevirtual 88, 3) := by decide +kernel
theorem dX8_isTilted_4 : decode cX8_isTilted 4 = .ok (.aload_n 0, 1) := by decide +kernel
theorem dX8_isTilted_5 : decode cX8_isTilted 5 = .ok (.getfield 10, 3) := by decide +kernel
theorem dX8_isTilted_8 : decode cX8_isTilted 8 = .ok (.getfield 140, 3) := by decide +kernel
theorem dX8_isTilted_11 : decode cX8_isTilted 11 = .ok (.getfield 168, 3) := by decide +kernel
theorem dX8_isTilted_14 : decode cX8_isTilted 14 = .ok (.ireturn, 1) := by decide +kernel
theorem dX8_hits_0 : decode cX8_hits 0 = .ok (.aload_n 0, 1) := by decide +kernel
theorem dX8_hits_1 : decode cX8_hits 1 = .ok (.invokevirtual 88, 3) := by decide +kernel
theorem dX8_hits_4 : decode cX8_hits 4 = .ok (.aload_n 0, 1) := by decide +kernel
theorem dX8_hits_5 : decode cX8_hits 5 = .ok (.getfield 10, 3) := by decide +kernel
theorem dX8_hits_8 : decode cX8_hits 8 = .ok (.getfield 140, 3) := by decide +kernel
theorem dX8_hits_11 : decode cX8_hits 11 = .ok (.getfield 171, 3) := by decide +kernel
theorem dX8_hits_14 : decode cX8_hits 14 = .ok (.ireturn, 1) := by decide +kernel
theorem dX8_wouldBeSaved_0 : decode cX8_wouldBeSaved 0 = .ok (.aload_n 0, 1) := by decide +kernel
theorem dX8_wouldBeSaved_1 : decode cX8_wouldBeSaved 1 = .ok (.invokevirtual 88, 3) := by decide +kernel
theorem dX8_wouldBeSaved_4 : decode cX8_wouldBeSaved 4 = .ok (.aload_n 0, 1) := by decide +kernel
theorem dX8_wouldBeSaved_5 : decode cX8_wouldBeSaved 5 = .ok (.getfield 10, 3) := by decide +kernel
theorem dX8_wouldBeSaved_8 : decode cX8_wouldBeSaved 8 = .ok (.getfield 140, 3) := by decide +kernel
theorem dX8_wouldBeSaved_11 : decode cX8_wouldBeSaved 11 = .ok (.invokevirtual 174, 3) := by decide +kernel
theorem dX8_wouldBeSaved_14 : decode cX8_wouldBeSaved 14 = .ok (.ireturn, 1) := by decide +kernel
theorem dX8_laneRun_0 : decode cX8_laneRun 0 = .ok (.aload_n 0, 1) := by decide +kernel
theorem dX8_laneRun_1 : decode cX8_laneRun 1 = .ok (.invokevirtual 88, 3) := by decide +kernel
theorem dX8_laneRun_4 : decode cX8_laneRun 4 = .ok (.aload_n 0, 1) := by decide +kernel
theorem dX8_laneRun_5 : decode cX8_laneRun 5 = .ok (.invokevirtual 177, 3) := by decide +kernel
theorem dX8_laneRun_8 : decode cX8_laneRun 8 = .ok (.ireturn, 1) := by decide +kernel
theorem dX8_laneRunByCounting_0 : decode cX8_laneRunByCounting 0 = .ok (.aload_n 0, 1) := by decide +kernel
theorem dX8_laneRunByCounting_1 : decode cX8_laneRunByCounting 1 = .ok (.invokevirtual 88, 3) := by decide +kernel
theorem dX8_laneRunByCounting_4 : decode cX8_laneRunByCounting 4 = .ok (.aload_n 0, 1) := by decide +kernel
theorem dX8_laneRunByCounting_5 : decode cX8_laneRunByCounting 5 = .ok (.getfield 10, 3) := by decide +kernel
theorem dX8_laneRunByCounting_8 : decode cX8_laneRunByCounting 8 = .ok (.getfield 140, 3) := by decide +kernel
theorem dX8_laneRunByCounting_11 : decode cX8_laneRunByCounting 11 = .ok (.invokevirtual 180, 3) := by decide +kernel
theorem dX8_laneRunByCounting_14 : decode cX8_laneRunByCounting 14 = .ok (.ireturn, 1) := by decide +kernel
theorem dX8_bumperRun_0 : decode cX8_bumperRun 0 = .ok (.aload_n 0, 1) := by decide +kernel
theorem dX8_bumperRun_1 : decode cX8_bumperRun 1 = .ok (.iload_n 1, 1) := by decide +kernel
theorem dX8_bumperRun_2 : decode cX8_bumperRun 2 = .ok (.iload_n 2, 1) := by decide +kernel
theorem dX8_bumperRun_3 : decode cX8_bumperRun 3 = .ok (.invokevirtual 183, 3) := by decide +kernel
theorem dX8_bumperRun_6 : decode cX8_bumperRun 6 = .ok (.aload_n 0, 1) := by decide +kernel
theorem dX8_bumperRun_7 : decode cX8_bumperRun 7 = .ok (.iload_n 1, 1) := by decide +kernel
theorem dX8_bumperRun_8 : decode cX8_bumperRun 8 = .ok (.iload_n 2, 1) := by decide +kernel
theorem dX8_bumperRun_9 : decode cX8_bumperRun 9 = .ok (.invokevirtual 186, 3) := by decide +kernel
theorem dX8_bumperRun_12 : decode cX8_bumperRun 12 = .ok (.ireturn, 1) := by decide +kernel
theorem dX8_bumperRunBySeries_0 : decode cX8_bumperRunBySeries 0 = .ok (.aload_n 0, 1) := by decide +kernel
theorem dX8_bumperRunBySeries_1 : decode cX8_bumperRunBySeries 1 = .ok (.iload_n 1, 1) := by decide +kernel
theorem dX8_bumperRunBySeries_2 : decode cX8_bumperRunBySeries 2 = .ok (.iload_n 2, 1) := by decide +kernel
theorem dX8_bumperRunBySeries_3 : decode cX8_bumperRunBySeries 3 = .ok (.invokevirtual 183, 3) := by decide +kernel
theorem dX8_bumperRunBySeries_6 : decode cX8_bumperRunBySeries 6 = .ok (.aload_n 0, 1) := by decide +kernel
theorem dX8_bumperRunBySeries_7 : decode cX8_bumperRunBySeries 7 = .ok (.getfield 10, 3) := by decide +kernel
theorem dX8_bumperRunBySeries_10 : decode cX8_bumperRunBySeries 10 = .ok (.getfield 140, 3) := by decide +kernel
theorem dX8_bumperRunBySeries_13 : decode cX8_bumperRunBySeries 13 = .ok (.iload_n 1, 1) := by decide +kernel
theorem dX8_bumperRunBySeries_14 : decode cX8_bumperRunBySeries 14 = .ok (.iload_n 2, 1) := by decide +kernel
theorem dX8_bumperRunBySeries_15 : decode cX8_bumperRunBySeries 15 = .ok (.invokevirtual 190, 3) := by decide +kernel
theorem dX8_bumperRunBySeries_18 : decode cX8_bumperRunBySeries 18 = .ok (.ireturn, 1) := by decide +kernel
theorem dX8_bonusIfDrained_0 : decode cX8_bonusIfDrained 0 = .ok (.aload_n 0, 1) := by decide +kernel
theorem dX8_bonusIfDrained_1 : decode cX8_bonusIfDrained 1 = .ok (.invokevirtual 88, 3) := by decide +kernel
theorem dX8_bonusIfDrained_4 : decode cX8_bonusIfDrained 4 = .ok (.aload_n 0, 1) := by decide +kernel
theorem dX8_bonusIfDrained_5 : decode cX8_bonusIfDrained 5 = .ok (.getfield 10, 3) := by decide +kernel
theorem dX8_bonusIfDrained_8 : decode cX8_bonusIfDrained 8 = .ok (.getfield 140, 3) := by decide +kernel
theorem dX8_bonusIfDrained_11 : decode cX8_bonusIfDrained 11 = .ok (.invokevirtual 174, 3) := by decide +kernel
theorem dX8_bonusIfDrained_14 : decode cX8_bonusIfDrained 14 = .ok (.ifCond .eq 7, 3) := by decide +kernel
theorem dX8_bonusIfDrained_17 : decode cX8_bonusIfDrained 17 = .ok (.iconst 0, 1) := by decide +kernel
theorem dX8_bonusIfDrained_18 : decode cX8_bonusIfDrained 18 = .ok (.goto 13, 3) := by decide +kernel
theorem dX8_bonusIfDrained_21 : decode cX8_bonusIfDrained 21 = .ok (.aload_n 0, 1) := by decide +kernel
theorem dX8_bonusIfDrained_22 : decode cX8_bonusIfDrained 22 = .ok (.getfield 10, 3) := by decide +kernel
theorem dX8_bonusIfDrained_25 : decode cX8_bonusIfDrained 25 = .ok (.getfield 140, 3) := by decide +kernel
theorem dX8_bonusIfDrained_28 : decode cX8_bonusIfDrained 28 = .ok (.invokevirtual 193, 3) := by decide +kernel
theorem dX8_bonusIfDrained_31 : decode cX8_bonusIfDrained 31 = .ok (.ireturn, 1) := by decide +kernel
theorem dX8_nextPlayer_0 : decode cX8_nextPlayer 0 = .ok (.aload_n 0, 1) := by decide +kernel
theorem dX8_nextPlayer_1 : decode cX8_nextPlayer 1 = .ok (.invokevirtual 88, 3) := by decide +kernel
theorem dX8_nextPlayer_4 : decode cX8_nextPlayer 4 = .ok (.aload_n 0, 1) := by decide +kernel
theorem dX8_nextPlayer_5 : decode cX8_nextPlayer 5 = .ok (.getfield 10, 3) := by decide +kernel
theorem dX8_nextPlayer_8 : decode cX8_nextPlayer 8 = .ok (.invokevirtual 196, 3) := by decide +kernel
theorem dX8_nextPlayer_11 : decode cX8_nextPlayer 11 = .ok (.istore_n 1, 1) := by decide +kernel
theorem dX8_nextPlayer_12 : decode cX8_nextPlayer 12 = .ok (.iload_n 1, 1) := by decide +kernel
theorem dX8_nextPlayer_13 : decode cX8_nextPlayer 13 = .ok (.iconst (-1), 1) := by decide +kernel
theorem dX8_nextPlayer_14 : decode cX8_nextPlayer 14 = .ok (.if_icmp .ne 13, 3) := by decide +kernel
theorem dX8_nextPlayer_17 : decode cX8_nextPlayer 17 = .ok (.new 76, 3) := by decide +kernel
theorem dX8_nextPlayer_20 : decode cX8_nextPlayer 20 = .ok (.dup, 1) := by decide +kernel
theorem dX8_nextPlayer_21 : decode cX8_nextPlayer 21 = .ok (.ldc 199, 2) := by decide +kernel
theorem dX8_nextPlayer_23 : decode cX8_nextPlayer 23 = .ok (.invokespecial 80, 3) := by decide +kernel
theorem dX8_nextPlayer_26 : decode cX8_nextPlayer 26 = .ok (.athrow, 1) := by decide +kernel
theorem dX8_nextPlayer_27 : decode cX8_nextPlayer 27 = .ok (.iload_n 1, 1) := by decide +kernel
theorem dX8_nextPlayer_28 : decode cX8_nextPlayer 28 = .ok (.ireturn, 1) := by decide +kernel
theorem dX8_recordCount_0 : decode cX8_recordCount 0 = .ok (.aload_n 0, 1) := by decide +kernel
theorem dX8_recordCount_1 : decode cX8_recordCount 1 = .ok (.getfield 10, 3) := by decide +kernel
theorem dX8_recordCount_4 : decode cX8_recordCount 4 = .ok (.getfield 201, 3) := by decide +kernel
theorem dX8_recordCount_7 : decode cX8_recordCount 7 = .ok (.getfield 205, 3) := by decide +kernel
theorem dX8_recordCount_10 : decode cX8_recordCount 10 = .ok (.ireturn, 1) := by decide +kernel
theorem dX8_recordScore_0 : decode cX8_recordScore 0 = .ok (.aload_n 0, 1) := by decide +kernel
theorem dX8_recordScore_1 : decode cX8_recordScore 1 = .ok (.iload_n 1, 1) := by decide +kernel
theorem dX8_recordScore_2 : decode cX8_recordScore 2 = .ok (.invokevirtual 210, 3) := by decide +kernel
theorem dX8_recordScore_5 : decode cX8_recordScore 5 = .ok (.aload_n 0, 1) := by decide +kernel
theorem dX8_recordScore_6 : decode cX8_recordScore 6 = .ok (.getfield 10, 3) := by decide +kernel
theorem dX8_recordScore_9 : decode cX8_recordScore 9 = .ok (.getfield 201, 3) := by decide +kernel
theorem dX8_recordScore_12 : decode cX8_recordScore 12 = .ok (.getfield 214, 3) := by decide +kernel
theorem dX8_recordScore_15 : decode cX8_recordScore 15 = .ok (.iload_n 1, 1) := by decide +kernel
theorem dX8_recordScore_16 : decode cX8_recordScore 16 = .ok (.iaload, 1) := by decide +kernel
theorem dX8_recordScore_17 : decode cX8_recordScore 17 = .ok (.ireturn, 1) := by decide +kernel
theorem dX8_recordPlayer_0 : decode cX8_recordPlayer 0 = .ok (.aload_n 0, 1) := by decide +kernel
theorem dX8_recordPlayer_1 : decode cX8_recordPlayer 1 = .ok (.iload_n 1, 1) := by decide +kernel
theorem dX8_recordPlayer_2 : decode cX8_recordPlayer 2 = .ok (.invokevirtual 210, 3) := by decide +kernel
theorem dX8_recordPlayer_5 : decode cX8_recordPlayer 5 = .ok (.aload_n 0, 1) := by decide +kernel
theorem dX8_recordPlayer_6 : decode cX8_recordPlayer 6 = .ok (.getfield 10, 3) := by decide +kernel
theorem dX8_recordPlayer_9 : decode cX8_recordPlayer 9 = .ok (.getfield 201, 3) := by decide +kernel
theorem dX8_recordPlayer_12 : decode cX8_recordPlayer 12 = .ok (.getfield 215, 3) := by decide +kernel
theorem dX8_recordPlayer_15 : decode cX8_recordPlayer 15 = .ok (.iload_n 1, 1) := by decide +kernel
theorem dX8_recordPlayer_16 : decode cX8_recordPlayer 16 = .ok (.iaload, 1) := by decide +kernel
theorem dX8_recordPlayer_17 : decode cX8_recordPlayer 17 = .ok (.ireturn, 1) := by decide +kernel
theorem dX8_recordGame_0 : decode cX8_recordGame 0 = .ok (.aload_n 0, 1) := by decide +kernel
theorem dX8_recordGame_1 : decode cX8_recordGame 1 = .ok (.iload_n 1, 1) := by decide +kernel
theorem dX8_recordGame_2 : decode cX8_recordGame 2 = .ok (.invokevirtual 210, 3) := by decide +kernel
theorem dX8_recordGame_5 : decode cX8_recordGame 5 = .ok (.aload_n 0, 1) := by decide +kernel
theorem dX8_recordGame_6 : decode cX8_recordGame 6 = .ok (.getfield 10, 3) := by decide +kernel
theorem dX8_recordGame_9 : decode cX8_recordGame 9 = .ok (.getfield 201, 3) := by decide +kernel
theorem dX8_recordGame_12 : decode cX8_recordGame 12 = .ok (.getfield 218, 3) := by decide +kernel
theorem dX8_recordGame_15 : decode cX8_recordGame 15 = .ok (.iload_n 1, 1) := by decide +kernel
theorem dX8_recordGame_16 : decode cX8_recordGame 16 = .ok (.iaload, 1) := by decide +kernel
theorem dX8_recordGame_17 : decode cX8_recordGame 17 = .ok (.ireturn, 1) := by decide +kernel
theorem dX8_pointsTotal_0 : decode cX8_pointsTotal 0 = .ok (.aload_n 0, 1) := by decide +kernel
theorem dX8_pointsTotal_1 : decode cX8_pointsTotal 1 = .ok (.getfield 10, 3) := by decide +kernel
theorem dX8_pointsTotal_4 : decode cX8_pointsTotal 4 = .ok (.getfield 221, 3) := by decide +kernel
theorem dX8_pointsTotal_7 : decode cX8_pointsTotal 7 = .ok (.getfield 225, 3) := by decide +kernel
theorem dX8_pointsTotal_10 : decode cX8_pointsTotal 10 = .ok (.ireturn, 1) := by decide +kernel
theorem dX8_pointsOf_0 : decode cX8_pointsOf 0 = .ok (.iload_n 1, 1) := by decide +kernel
theorem dX8_pointsOf_1 : decode cX8_pointsOf 1 = .ok (.invokestatic 230, 3) := by decide +kernel
theorem dX8_pointsOf_4 : decode cX8_pointsOf 4 = .ok (.istore_n 2, 1) := by decide +kernel
theorem dX8_pointsOf_5 : decode cX8_pointsOf 5 = .ok (.iload_n 2, 1) := by decide +kernel
theorem dX8_pointsOf_6 : decode cX8_pointsOf 6 = .ok (.iconst (-1), 1) := by decide +kernel
theorem dX8_pointsOf_7 : decode cX8_pointsOf 7 = .ok (.if_icmp .ne 13, 3) := by decide +kernel
theorem dX8_pointsOf_10 : decode cX8_pointsOf 10 = .ok (.new 105, 3) := by decide +kernel
theorem dX8_pointsOf_13 : decode cX8_pointsOf 13 = .ok (.dup, 1) := by decide +kernel
theorem dX8_pointsOf_14 : decode cX8_pointsOf 14 = .ok (.ldc 234, 2) := by decide +kernel
theorem dX8_pointsOf_16 : decode cX8_pointsOf 16 = .ok (.invokespecial 109, 3) := by decide +kernel
theorem dX8_pointsOf_19 : decode cX8_pointsOf 19 = .ok (.athrow, 1) := by decide +kernel
theorem dX8_pointsOf_20 : decode cX8_pointsOf 20 = .ok (.aload_n 0, 1) := by decide +kernel
theorem dX8_pointsOf_21 : decode cX8_pointsOf 21 = .ok (.getfield 10, 3) := by decide +kernel
theorem dX8_pointsOf_24 : decode cX8_pointsOf 24 = .ok (.getfield 221, 3) := by decide +kernel
theorem dX8_pointsOf_27 : decode cX8_pointsOf 27 = .ok (.getfield 236, 3) := by decide +kernel
theorem dX8_pointsOf_30 : decode cX8_pointsOf 30 = .ok (.iload_n 2, 1) := by decide +kernel
theorem dX8_pointsOf_31 : decode cX8_pointsOf 31 = .ok (.iaload, 1) := by decide +kernel
theorem dX8_pointsOf_32 : decode cX8_pointsOf 32 = .ok (.ireturn, 1) := by decide +kernel
theorem dX8_drainedBalls_0 : decode cX8_drainedBalls 0 = .ok (.aload_n 0, 1) := by decide +kernel
theorem dX8_drainedBalls_1 : decode cX8_drainedBalls 1 = .ok (.getfield 10, 3) := by decide +kernel
theorem dX8_drainedBalls_4 : decode cX8_drainedBalls 4 = .ok (.getfield 221, 3) := by decide +kernel
theorem dX8_drainedBalls_7 : decode cX8_drainedBalls 7 = .ok (.getfield 239, 3) := by decide +kernel
theorem dX8_drainedBalls_10 : decode cX8_drainedBalls 10 = .ok (.ireturn, 1) := by decide +kernel
theorem dX8_tiltedBalls_0 : decode cX8_tiltedBalls 0 = .ok (.aload_n 0, 1) := by decide +kernel
theorem dX8_tiltedBalls_1 : decode cX8_tiltedBalls 1 = .ok (.getfield 10, 3) := by decide +kernel
theorem dX8_tiltedBalls_4 : decode cX8_tiltedBalls 4 = .ok (.getfield 221, 3) := by decide +kernel
theorem dX8_tiltedBalls_7 : decode cX8_tiltedBalls 7 = .ok (.getfield 242, 3) := by decide +kernel
theorem dX8_tiltedBalls_10 : decode cX8_tiltedBalls 10 = .ok (.ireturn, 1) := by decide +kernel
theorem dX8_meanScore_0 : decode cX8_meanScore 0 = .ok (.aload_n 0, 1) := by decide +kernel
theorem dX8_meanScore_1 : decode cX8_meanScore 1 = .ok (.getfield 10, 3) := by decide +kernel
theorem dX8_meanScore_4 : decode cX8_meanScore 4 = .ok (.getfield 72, 3) := by decide +kernel
theorem dX8_meanScore_7 : decode cX8_meanScore 7 = .ok (.ifCond .ne 13, 3) := by decide +kernel
theorem dX8_meanScore_10 : decode cX8_meanScore 10 = .ok (.new 245, 3) := by decide +kernel
theorem dX8_meanScore_13 : decode cX8_meanScore 13 = .ok (.dup, 1) := by decide +kernel
theorem dX8_meanScore_14 : decode cX8_meanScore 14 = .ok (.ldc 78, 2) := by decide +kernel
theorem dX8_meanScore_16 : decode cX8_meanScore 16 = .ok (.invokespecial 247, 3) := by decide +kernel
theorem dX8_meanScore_19 : decode cX8_meanScore 19 = .ok (.athrow, 1) := by decide +kernel
theorem dX8_meanScore_20 : decode cX8_meanScore 20 = .ok (.aload_n 0, 1) := by decide +kernel
theorem dX8_meanScore_21 : decode cX8_meanScore 21 = .ok (.getfield 10, 3) := by decide +kernel
theorem dX8_meanScore_24 : decode cX8_meanScore 24 = .ok (.invokevirtual 248, 3) := by decide +kernel
theorem dX8_meanScore_27 : decode cX8_meanScore 27 = .ok (.i2d, 1) := by decide +kernel
theorem dX8_meanScore_28 : decode cX8_meanScore 28 = .ok (.aload_n 0, 1) := by decide +kernel
theorem dX8_meanScore_29 : decode cX8_meanScore 29 = .ok (.getfield 10, 3) := by decide +kernel
theorem dX8_meanScore_32 : decode cX8_meanScore 32 = .ok (.getfield 72, 3) := by decide +kernel
theorem dX8_meanScore_35 : decode cX8_meanScore 35 = .ok (.i2d, 1) := by decide +kernel
theorem dX8_meanScore_36 : decode cX8_meanScore 36 = .ok (.ddiv, 1) := by decide +kernel
theorem dX8_meanScore_37 : decode cX8_meanScore 37 = .ok (.dreturn, 1) := by decide +kernel
theorem dX8_tiltRate_0 : decode cX8_tiltRate 0 = .ok (.aload_n 0, 1) := by decide +kernel
theorem dX8_tiltRate_1 : decode cX8_tiltRate 1 = .ok (.getfield 10, 3) := by decide +kernel
theorem dX8_tiltRate_4 : decode cX8_tiltRate 4 = .ok (.getfield 221, 3) := by decide +kernel
theorem dX8_tiltRate_7 : decode cX8_tiltRate 7 = .ok (.getfield 239, 3) := by decide +kernel
theorem dX8_tiltRate_10 : decode cX8_tiltRate 10 = .ok (.ifCond .ne 13, 3) := by decide +kernel
theorem dX8_tiltRate_13 : decode cX8_tiltRate 13 = .ok (.new 245, 3) := by decide +kernel
theorem dX8_tiltRate_16 : decode cX8_tiltRate 16 = .ok (.dup, 1) := by decide +kernel
theorem dX8_tiltRate_17 : decode cX8_tiltRate 17 = .ok (.ldc 251, 2) := by decide +kernel
theorem dX8_tiltRate_19 : decode cX8_tiltRate 19 = .ok (.invokespecial 247, 3) := by decide +kernel
theorem dX8_tiltRate_22 : decode cX8_tiltRate 22 = .ok (.athrow, 1) := by decide +kernel
theorem dX8_tiltRate_23 : decode cX8_tiltRate 23 = .ok (.aload_n 0, 1) := by decide +kernel
theorem dX8_tiltRate_24 : decode cX8_tiltRate 24 = .ok (.getfield 10, 3) := by decide +kernel
theorem dX8_tiltRate_27 : decode cX8_tiltRate 27 = .ok (.getfield 221, 3) := by decide +kernel
theorem dX8_tiltRate_30 : decode cX8_tiltRate 30 = .ok (.getfield 242, 3) := by decide +kernel
theorem dX8_tiltRate_33 : decode cX8_tiltRate 33 = .ok (.i2f, 1) := by decide +kernel
theorem dX8_tiltRate_34 : decode cX8_tiltRate 34 = .ok (.aload_n 0, 1) := by decide +kernel
theorem dX8_tiltRate_35 : decode cX8_tiltRate 35 = .ok (.getfield 10, 3) := by decide +kernel
theorem dX8_tiltRate_38 : decode cX8_tiltRate 38 = .ok (.getfield 221, 3) := by decide +kernel
theorem dX8_tiltRate_41 : decode cX8_tiltRate 41 = .ok (.getfield 239, 3) := by decide +kernel
theorem dX8_tiltRate_44 : decode cX8_tiltRate 44 = .ok (.i2f, 1) := by decide +kernel
theorem dX8_tiltRate_45 : decode cX8_tiltRate 45 = .ok (.fdiv, 1) := by decide +kernel
theorem dX8_tiltRate_46 : decode cX8_tiltRate 46 = .ok (.freturn, 1) := by decide +kernel
theorem dX8_isConsistent_0 : decode cX8_isConsistent 0 = .ok (.aload_n 0, 1) := by decide +kernel
theorem dX8_isConsistent_1 : decode cX8_isConsistent 1 = .ok (.getfield 10, 3) := by decide +kernel
theorem dX8_isConsistent_4 : decode cX8_isConsistent 4 = .ok (.getfield 66, 3) := by decide +kernel
theorem dX8_isConsistent_7 : decode cX8_isConsistent 7 = .ok (.ifCond .eq 12, 3) := by decide +kernel
theorem dX8_isConsistent_10 : decode cX8_isConsistent 10 = .ok (.aload_n 0, 1) := by decide +kernel
theorem dX8_isConsistent_11 : decode cX8_isConsistent 11 = .ok (.invokevirtual 253, 3) := by decide +kernel
theorem dX8_isConsistent_14 : decode cX8_isConsistent 14 = .ok (.ifCond .ne 5, 3) := by decide +kernel
theorem dX8_isConsistent_17 : decode cX8_isConsistent 17 = .ok (.iconst 0, 1) := by decide +kernel
theorem dX8_isConsistent_18 : decode cX8_isConsistent 18 = .ok (.ireturn, 1) := by decide +kernel
theorem dX8_isConsistent_19 : decode cX8_isConsistent 19 = .ok (.aload_n 0, 1) := by decide +kernel
theorem dX8_isConsistent_20 : decode cX8_isConsistent 20 = .ok (.getfield 10, 3) := by decide +kernel
theorem dX8_isConsistent_23 : decode cX8_isConsistent 23 = .ok (.getfield 221, 3) := by decide +kernel
theorem dX8_isConsistent_26 : decode cX8_isConsistent 26 = .ok (.invokevirtual 256, 3) := by decide +kernel
theorem dX8_isConsistent_29 : decode cX8_isConsistent 29 = .ok (.ifCond .eq 20, 3) := by decide +kernel
theorem dX8_isConsistent_32 : decode cX8_isConsistent 32 = .ok (.aload_n 0, 1) := by decide +kernel
theorem dX8_isConsistent_33 : decode cX8_isConsistent 33 = .ok (.getfield 10, 3) := by decide +kernel
theorem dX8_isConsistent_36 : decode cX8_isConsistent 36 = .ok (.getfield 201, 3) := by decide +kernel
theorem dX8_isConsistent_39 : decode cX8_isConsistent 39 = .ok (.invokevirtual 259, 3) := by decide +kernel
theorem dX8_isConsistent_42 : decode cX8_isConsistent 42 = .ok (.ifCond .eq 7, 3) := by decide +kernel
theorem dX8_isConsistent_45 : decode cX8_isConsistent 45 = .ok (.iconst 1, 1) := by decide +kernel
theorem dX8_isConsistent_46 : decode cX8_isConsistent 46 = .ok (.goto 4, 3) := by decide +kernel
theorem dX8_isConsistent_49 : decode cX8_isConsistent 49 = .ok (.iconst 0, 1) := by decide +kernel
theorem dX8_isConsistent_50 : decode cX8_isConsistent 50 = .ok (.ireturn, 1) := by decide +kernel
theorem dX8_renderBall_0 : decode cX8_renderBall 0 = .ok (.aload_n 0, 1) := by decide +kernel
theorem dX8_renderBall_1 : decode cX8_renderBall 1 = .ok (.invokevirtual 88, 3) := by decide +kernel
theorem dX8_renderBall_4 : decode cX8_renderBall 4 = .ok (.aload_n 0, 1) := by decide +kernel
theorem dX8_renderBall_5 : decode cX8_renderBall 5 = .ok (.getfield 36, 3) := by decide +kernel
theorem dX8_renderBall_8 : decode cX8_renderBall 8 = .ok (.iconst 0, 1) := by decide +kernel
theorem dX8_renderBall_9 : decode cX8_renderBall 9 = .ok (.invokevirtual 262, 3) := by decide +kernel
theorem dX8_renderBall_12 : decode cX8_renderBall 12 = .ok (.aload_n 0, 1) := by decide +kernel
theorem dX8_renderBall_13 : decode cX8_renderBall 13 = .ok (.getfield 10, 3) := by decide +kernel
theorem dX8_renderBall_16 : decode cX8_renderBall 16 = .ok (.getfield 140, 3) := by decide +kernel
theorem dX8_renderBall_19 : decode cX8_renderBall 19 = .ok (.aload_n 0, 1) := by decide +kernel
theorem dX8_renderBall_20 : decode cX8_renderBall 20 = .ok (.getfield 36, 3) := by decide +kernel
theorem dX8_renderBall_23 : decode cX8_renderBall 23 = .ok (.invokevirtual 265, 3) := by decide +kernel
theorem dX8_renderBall_26 : decode cX8_renderBall 26 = .ok (.aload_n 0, 1) := by decide +kernel
theorem dX8_renderBall_27 : decode cX8_renderBall 27 = .ok (.getfield 36, 3) := by decide +kernel
theorem dX8_renderBall_30 : decode cX8_renderBall 30 = .ok (.invokevirtual 269, 3) := by decide +kernel
theorem dX8_renderBall_33 : decode cX8_renderBall 33 = .ok (.ireturn, 1) := by decide +kernel
theorem dX8_renderRecords_0 : decode cX8_renderRecords 0 = .ok (.aload_n 0, 1) := by decide +kernel
theorem dX8_renderRecords_1 : decode cX8_renderRecords 1 = .ok (.getfield 36, 3) := by decide +kernel
theorem dX8_renderRecords_4 : decode cX8_renderRecords 4 = .ok (.iconst 0, 1) := by decide +kernel
theorem dX8_renderRecords_5 : decode cX8_renderRecords 5 = .ok (.invokevirtual 262, 3) := by decide +kernel
theorem dX8_renderRecords_8 : decode cX8_renderRecords 8 = .ok (.aload_n 0, 1) := by decide +kernel
theorem dX8_renderRecords_9 : decode cX8_renderRecords 9 = .ok (.getfield 10, 3) := by decide +kernel
theorem dX8_renderRecords_12 : decode cX8_renderRecords 12 = .ok (.getfield 201, 3) := by decide +kernel
theorem dX8_renderRecords_15 : decode cX8_renderRecords 15 = .ok (.aload_n 0, 1) := by decide +kernel
theorem dX8_renderRecords_16 : decode cX8_renderRecords 16 = .ok (.getfield 36, 3) := by decide +kernel
theorem dX8_renderRecords_19 : decode cX8_renderRecords 19 = .ok (.invokevirtual 272, 3) := by decide +kernel
theorem dX8_renderRecords_22 : decode cX8_renderRecords 22 = .ok (.aload_n 0, 1) := by decide +kernel
theorem dX8_renderRecords_23 : decode cX8_renderRecords 23 = .ok (.getfield 36, 3) := by decide +kernel
theorem dX8_renderRecords_26 : decode cX8_renderRecords 26 = .ok (.invokevirtual 269, 3) := by decide +kernel
theorem dX8_renderRecords_29 : decode cX8_renderRecords 29 = .ok (.ireturn, 1) := by decide +kernel
theorem dX8_outputAt_0 : decode cX8_outputAt 0 = .ok (.iload_n 1, 1) := by decide +kernel
theorem dX8_outputAt_1 : decode cX8_outputAt 1 = .ok (.aload_n 0, 1) := by decide +kernel
theorem dX8_outputAt_2 : decode cX8_outputAt 2 = .ok (.getfield 36, 3) := by decide +kernel
theorem dX8_outputAt_5 : decode cX8_outputAt 5 = .ok (.invokevirtual 269, 3) := by decide +kernel
theorem dX8_outputAt_8 : decode cX8_outputAt 8 = .ok (.invokestatic 84, 3) := by decide +kernel
theorem dX8_outputAt_11 : decode cX8_outputAt 11 = .ok (.aload_n 0, 1) := by decide +kernel
theorem dX8_outputAt_12 : decode cX8_outputAt 12 = .ok (.getfield 36, 3) := by decide +kernel
theorem dX8_outputAt_15 : decode cX8_outputAt 15 = .ok (.iload_n 1, 1) := by decide +kernel
theorem dX8_outputAt_16 : decode cX8_outputAt 16 = .ok (.invokevirtual 273, 3) := by decide +kernel
theorem dX8_outputAt_19 : decode cX8_outputAt 19 = .ok (.ireturn, 1) := by decide +kernel
theorem dX8_type_0 : decode cX8_type 0 = .ok (.iload_n 1, 1) := by decide +kernel
theorem dX8_type_1 : decode cX8_type 1 = .ok (.bipush 32, 2) := by decide +kernel
theorem dX8_type_3 : decode cX8_type 3 = .ok (.if_icmp .lt 9, 3) := by decide +kernel
theorem dX8_type_6 : decode cX8_type 6 = .ok (.iload_n 1, 1) := by decide +kernel
theorem dX8_type_7 : decode cX8_type 7 = .ok (.bipush 126, 2) := by decide +kernel
theorem dX8_type_9 : decode cX8_type 9 = .ok (.if_icmp .le 14, 3) := by decide +kernel
theorem dX8_type_12 : decode cX8_type 12 = .ok (.new 105, 3) := by decide +kernel
theorem dX8_type_15 : decode cX8_type 15 = .ok (.dup, 1) := by decide +kernel
theorem dX8_type_16 : decode cX8_type 16 = .ok (.ldc_w 277, 3) := by decide +kernel
theorem dX8_type_19 : decode cX8_type 19 = .ok (.invokespecial 109, 3) := by decide +kernel
theorem dX8_type_22 : decode cX8_type 22 = .ok (.athrow, 1) := by decide +kernel
theorem dX8_type_23 : decode cX8_type 23 = .ok (.aload_n 0, 1) := by decide +kernel
theorem dX8_type_24 : decode cX8_type 24 = .ok (.getfield 43, 3) := by decide +kernel
theorem dX8_type_27 : decode cX8_type 27 = .ok (.getfield 279, 3) := by decide +kernel
theorem dX8_type_30 : decode cX8_type 30 = .ok (.bipush 60, 2) := by decide +kernel
theorem dX8_type_32 : decode cX8_type 32 = .ok (.if_icmp .lt 14, 3) := by decide +kernel
theorem dX8_type_35 : decode cX8_type 35 = .ok (.new 51, 3) := by decide +kernel
theorem dX8_type_38 : decode cX8_type 38 = .ok (.dup, 1) := by decide +kernel
theorem dX8_type_39 : decode cX8_type 39 = .ok (.ldc_w 281, 3) := by decide +kernel
theorem dX8_type_42 : decode cX8_type 42 = .ok (.invokespecial 55, 3) := by decide +kernel
theorem dX8_type_45 : decode cX8_type 45 = .ok (.athrow, 1) := by decide +kernel
theorem dX8_type_46 : decode cX8_type 46 = .ok (.aload_n 0, 1) := by decide +kernel
theorem dX8_type_47 : decode cX8_type 47 = .ok (.getfield 43, 3) := by decide +kernel
theorem dX8_type_50 : decode cX8_type 50 = .ok (.iload_n 1, 1) := by decide +kernel
theorem dX8_type_51 : decode cX8_type 51 = .ok (.invokevirtual 283, 3) := by decide +kernel
theorem dX8_type_54 : decode cX8_type 54 = .ok (.ireturn, 1) := by decide +kernel
theorem dX8_runScript_0 : decode cX8_runScript 0 = .ok (.aload_n 0, 1) := by decide +kernel
theorem dX8_runScript_1 : decode cX8_runScript 1 = .ok (.getfield 43, 3) := by decide +kernel
theorem dX8_runScript_4 : decode cX8_runScript 4 = .ok (.invokevirtual 286, 3) := by decide +kernel
theorem dX8_runScript_7 : decode cX8_runScript 7 = .ok (.istore_n 1, 1) := by decide +kernel
theorem dX8_runScript_8 : decode cX8_runScript 8 = .ok (.aload_n 0, 1) := by decide +kernel
theorem dX8_runScript_9 : decode cX8_runScript 9 = .ok (.getfield 43, 3) := by decide +kernel
theorem dX8_runScript_12 : decode cX8_runScript 12 = .ok (.iconst 0, 1) := by decide +kernel
theorem dX8_runScript_13 : decode cX8_runScript 13 = .ok (.putfield 279, 3) := by decide +kernel
theorem dX8_runScript_16 : decode cX8_runScript 16 = .ok (.iload_n 1, 1) := by decide +kernel
theorem dX8_runScript_17 : decode cX8_runScript 17 = .ok (.ifCond .ne 30, 3) := by decide +kernel
theorem dX8_runScript_20 : decode cX8_runScript 20 = .ok (.aload_n 0, 1) := by decide +kernel
theorem dX8_runScript_21 : decode cX8_runScript 21 = .ok (.iconst 1, 1) := by decide +kernel
theorem dX8_runScript_22 : decode cX8_runScript 22 = .ok (.putfield 289, 3) := by decide +kernel
theorem dX8_runScript_25 : decode cX8_runScript 25 = .ok (.aload_n 0, 1) := by decide +kernel
theorem dX8_runScript_26 : decode cX8_runScript 26 = .ok (.aload_n 0, 1) := by decide +kernel
theorem dX8_runScript_27 : decode cX8_runScript 27 = .ok (.getfield 43, 3) := by decide +kernel
theorem dX8_runScript_30 : decode cX8_runScript 30 = .ok (.getfield 292, 3) := by decide +kernel
theorem dX8_runScript_33 : decode cX8_runScript 33 = .ok (.putfield 295, 3) := by decide +kernel
theorem dX8_runScript_36 : decode cX8_runScript 36 = .ok (.new 105, 3) := by decide +kernel
theorem dX8_runScript_39 : decode cX8_runScript 39 = .ok (.dup, 1) := by decide +kernel
theorem dX8_runScript_40 : decode cX8_runScript 40 = .ok (.ldc_w 298, 3) := by decide +kernel
theorem dX8_runScript_43 : decode cX8_runScript 43 = .ok (.invokespecial 109, 3) := by decide +kernel
theorem dX8_runScript_46 : decode cX8_runScript 46 = .ok (.athrow, 1) := by decide +kernel
theorem dX8_runScript_47 : decode cX8_runScript 47 = .ok (.aload_n 0, 1) := by decide +kernel
theorem dX8_runScript_48 : decode cX8_runScript 48 = .ok (.getfield 19, 3) := by decide +kernel
theorem dX8_runScript_51 : decode cX8_runScript 51 = .ok (.aload_n 0, 1) := by decide +kernel
theorem dX8_runScript_52 : decode cX8_runScript 52 = .ok (.getfield 10, 3) := by decide +kernel
theorem dX8_runScript_55 : decode cX8_runScript 55 = .ok (.invokevirtual 300, 3) := by decide +kernel
theorem dX8_runScript_58 : decode cX8_runScript 58 = .ok (.aload_n 0, 1) := by decide +kernel
theorem dX8_runScript_59 : decode cX8_runScript 59 = .ok (.invokevirtual 303, 3) := by decide +kernel
theorem dX8_runScript_62 : decode cX8_runScript 62 = .ok (.istore_n 2, 1) := by decide +kernel
theorem dX8_runScript_63 : decode cX8_runScript 63 = .ok (.iload_n 2, 1) := by decide +kernel
theorem dX8_runScript_64 : decode cX8_runScript 64 = .ok (.aload_n 0, 1) := by decide +kernel
theorem dX8_runScript_65 : decode cX8_runScript 65 = .ok (.getfield 43, 3) := by decide +kernel
theorem dX8_runScript_68 : decode cX8_runScript 68 = .ok (.getfield 306, 3) := by decide +kernel
theorem dX8_runScript_71 : decode cX8_runScript 71 = .ok (.if_icmp .ge 38, 3) := by decide +kernel
theorem dX8_runScript_74 : decode cX8_runScript 74 = .ok (.aload_n 0, 1) := by decide +kernel
theorem dX8_runScript_75 : decode cX8_runScript 75 = .ok (.getfield 10, 3) := by decide +kernel
theorem dX8_runScript_78 : decode cX8_runScript 78 = .ok (.aload_n 0, 1) := by decide +kernel
theorem dX8_runScript_79 : decode cX8_runScript 79 = .ok (.getfield 19, 3) := by decide +kernel
theorem dX8_runScript_82 : decode cX8_runScript 82 = .ok (.invokevirtual 309, 3) := by decide +kernel
theorem dX8_runScript_85 : decode cX8_runScript 85 = .ok (.invokevirtual 313, 3) := by decide +kernel
theorem dX8_runScript_88 : decode cX8_runScript 88 = .ok (.aload_n 0, 1) := by decide +kernel
theorem dX8_runScript_89 : decode cX8_runScript 89 = .ok (.iconst 1, 1) := by decide +kernel
theorem dX8_runScript_90 : decode cX8_runScript 90 = .ok (.putfield 316, 3) := by decide +kernel
theorem dX8_runScript_93 : decode cX8_runScript 93 = .ok (.aload_n 0, 1) := by decide +kernel
theorem dX8_runScript_94 : decode cX8_runScript 94 = .ok (.iload_n 2, 1) := by decide +kernel
theorem dX8_runScript_95 : decode cX8_runScript 95 = .ok (.putfield 319, 3) := by decide +kernel
theorem dX8_runScript_98 : decode cX8_runScript 98 = .ok (.new 51, 3) := by decide +kernel
theorem dX8_runScript_101 : decode cX8_runScript 101 = .ok (.dup, 1) := by decide +kernel
theorem dX8_runScript_102 : decode cX8_runScript 102 = .ok (.ldc_w 322, 3) := by decide +kernel
theorem dX8_runScript_105 : decode cX8_runScript 105 = .ok (.invokespecial 55, 3) := by decide +kernel
theorem dX8_runScript_108 : decode cX8_runScript 108 = .ok (.athrow, 1) := by decide +kernel
theorem dX8_runScript_109 : decode cX8_runScript 109 = .ok (.aload_n 0, 1) := by decide +kernel
theorem dX8_runScript_110 : decode cX8_runScript 110 = .ok (.getfield 19, 3) := by decide +kernel
theorem dX8_runScript_113 : decode cX8_runScript 113 = .ok (.invokevirtual 324, 3) := by decide +kernel
theorem dX8_runScript_116 : decode cX8_runScript 116 = .ok (.iload_n 2, 1) := by decide +kernel
theorem dX8_runScript_117 : decode cX8_runScript 117 = .ok (.ireturn, 1) := by decide +kernel
theorem dX8_errorPosition_0 : decode cX8_errorPosition 0 = .ok (.aload_n 0, 1) := by decide +kernel
theorem dX8_errorPosition_1 : decode cX8_errorPosition 1 = .ok (.getfield 289, 3) := by decide +kernel
theorem dX8_errorPosition_4 : decode cX8_errorPosition 4 = .ok (.ifCond .ne 14, 3) := by decide +kernel
theorem dX8_errorPosition_7 : decode cX8_errorPosition 7 = .ok (.new 76, 3) := by decide +kernel
theorem dX8_errorPosition_10 : decode cX8_errorPosition 10 = .ok (.dup, 1) := by decide +kernel
theorem dX8_errorPosition_11 : decode cX8_errorPosition 11 = .ok (.ldc_w 327, 3) := by decide +kernel
theorem dX8_errorPosition_14 : decode cX8_errorPosition 14 = .ok (.invokespecial 80, 3) := by decide +kernel
theorem dX8_errorPosition_17 : decode cX8_errorPosition 17 = .ok (.athrow, 1) := by decide +kernel
theorem dX8_errorPosition_18 : decode cX8_errorPosition 18 = .ok (.aload_n 0, 1) := by decide +kernel
theorem dX8_errorPosition_19 : decode cX8_errorPosition 19 = .ok (.getfield 295, 3) := by decide +kernel
theorem dX8_errorPosition_22 : decode cX8_errorPosition 22 = .ok (.ireturn, 1) := by decide +kernel
theorem dX8_failedCommand_0 : decode cX8_failedCommand 0 = .ok (.aload_n 0, 1) := by decide +kernel
theorem dX8_failedCommand_1 : decode cX8_failedCommand 1 = .ok (.getfield 316, 3) := by decide +kernel
theorem dX8_failedCommand_4 : decode cX8_failedCommand 4 = .ok (.ifCond .ne 14, 3) := by decide +kernel
theorem dX8_failedCommand_7 : decode cX8_failedCommand 7 = .ok (.new 76, 3) := by decide +kernel
theorem dX8_failedCommand_10 : decode cX8_failedCommand 10 = .ok (.dup, 1) := by decide +kernel
theorem dX8_failedCommand_11 : decode cX8_failedCommand 11 = .ok (.ldc_w 329, 3) := by decide +kernel
theorem dX8_failedCommand_14 : decode cX8_failedCommand 14 = .ok (.invokespecial 80, 3) := by decide +kernel
theorem dX8_failedCommand_17 : decode cX8_failedCommand 17 = .ok (.athrow, 1) := by decide +kernel
theorem dX8_failedCommand_18 : decode cX8_failedCommand 18 = .ok (.aload_n 0, 1) := by decide +kernel
theorem dX8_failedCommand_19 : decode cX8_failedCommand 19 = .ok (.getfield 319, 3) := by decide +kernel
theorem dX8_failedCommand_22 : decode cX8_failedCommand 22 = .ok (.ireturn, 1) := by decide +kernel
theorem dX8_undo_0 : decode cX8_undo 0 = .ok (.aload_n 0, 1) := by decide +kernel
theorem dX8_undo_1 : decode cX8_undo 1 = .ok (.getfield 19, 3) := by decide +kernel
theorem dX8_undo_4 : decode cX8_undo 4 = .ok (.getfield 331, 3) := by decide +kernel
theorem dX8_undo_7 : decode cX8_undo 7 = .ok (.ifCond .ne 14, 3) := by decide +kernel
theorem dX8_undo_10 : decode cX8_undo 10 = .ok (.new 76, 3) := by decide +kernel
theorem dX8_undo_13 : decode cX8_undo 13 = .ok (.dup, 1) := by decide +kernel
theorem dX8_undo_14 : decode cX8_undo 14 = .ok (.ldc_w 332, 3) := by decide +kernel
theorem dX8_undo_17 : decode cX8_undo 17 = .ok (.invokespecial 80, 3) := by decide +kernel
theorem dX8_undo_20 : decode cX8_undo 20 = .ok (.athrow, 1) := by decide +kernel
theorem dX8_undo_21 : decode cX8_undo 21 = .ok (.aload_n 0, 1) := by decide +kernel
theorem dX8_undo_22 : decode cX8_undo 22 = .ok (.getfield 10, 3) := by decide +kernel
theorem dX8_undo_25 : decode cX8_undo 25 = .ok (.aload_n 0, 1) := by decide +kernel
theorem dX8_undo_26 : decode cX8_undo 26 = .ok (.getfield 19, 3) := by decide +kernel
theorem dX8_undo_29 : decode cX8_undo 29 = .ok (.invokevirtual 334, 3) := by decide +kernel
theorem dX8_undo_32 : decode cX8_undo 32 = .ok (.invokevirtual 313, 3) := by decide +kernel
theorem dX8_undo_35 : decode cX8_undo 35 = .ok (.aload_n 0, 1) := by decide +kernel
theorem dX8_undo_36 : decode cX8_undo 36 = .ok (.getfield 19, 3) := by decide +kernel
theorem dX8_undo_39 : decode cX8_undo 39 = .ok (.getfield 331, 3) := by decide +kernel
theorem dX8_undo_42 : decode cX8_undo 42 = .ok (.ireturn, 1) := by decide +kernel
theorem dX8_save_0 : decode cX8_save 0 = .ok (.aload_n 0, 1) := by decide +kernel
theorem dX8_save_1 : decode cX8_save 1 = .ok (.getfield 23, 3) := by decide +kernel
theorem dX8_save_4 : decode cX8_save 4 = .ok (.aload_n 0, 1) := by decide +kernel
theorem dX8_save_5 : decode cX8_save 5 = .ok (.getfield 10, 3) := by decide +kernel
theorem dX8_save_8 : decode cX8_save 8 = .ok (.invokevirtual 313, 3) := by decide +kernel
theorem dX8_save_11 : decode cX8_save 11 = .ok (.aload_n 0, 1) := by decide +kernel
theorem dX8_save_12 : decode cX8_save 12 = .ok (.iconst 1, 1) := by decide +kernel
theorem dX8_save_13 : decode cX8_save 13 = .ok (.putfield 337, 3) := by decide +kernel
theorem dX8_save_16 : decode cX8_save 16 = .ok (.aload_n 0, 1) := by decide +kernel
theorem dX8_save_17 : decode cX8_save 17 = .ok (.getfield 10, 3) := by decide +kernel
theorem dX8_save_20 : decode cX8_save 20 = .ok (.getfield 72, 3) := by decide +kernel
theorem dX8_save_23 : decode cX8_save 23 = .ok (.ireturn, 1) := by decide +kernel
theorem dX8_restore_0 : decode cX8_restore 0 = .ok (.aload_n 0, 1) := by decide +kernel
theorem dX8_restore_1 : decode cX8_restore 1 = .ok (.getfield 337, 3) := by decide +kernel
theorem dX8_restore_4 : decode cX8_restore 4 = .ok (.ifCond .ne 14, 3) := by decide +kernel
theorem dX8_restore_7 : decode cX8_restore 7 = .ok (.new 51, 3) := by decide +kernel
theorem dX8_restore_10 : decode cX8_restore 10 = .ok (.dup, 1) := by decide +kernel
theorem dX8_restore_11 : decode cX8_restore 11 = .ok (.ldc_w 340, 3) := by decide +kernel
theorem dX8_restore_14 : decode cX8_restore 14 = .ok (.invokespecial 55, 3) := by decide +kernel
theorem dX8_restore_17 : decode cX8_restore 17 = .ok (.athrow, 1) := by decide +kernel
theorem dX8_restore_18 : decode cX8_restore 18 = .ok (.aload_n 0, 1) := by decide +kernel
theorem dX8_restore_19 : decode cX8_restore 19 = .ok (.getfield 10, 3) := by decide +kernel
theorem dX8_restore_22 : decode cX8_restore 22 = .ok (.aload_n 0, 1) := by decide +kernel
theorem dX8_restore_23 : decode cX8_restore 23 = .ok (.getfield 23, 3) := by decide +kernel
theorem dX8_restore_26 : decode cX8_restore 26 = .ok (.invokevirtual 313, 3) := by decide +kernel
theorem dX8_restore_29 : decode cX8_restore 29 = .ok (.aload_n 0, 1) := by decide +kernel
theorem dX8_restore_30 : decode cX8_restore 30 = .ok (.getfield 19, 3) := by decide +kernel
theorem dX8_restore_33 : decode cX8_restore 33 = .ok (.iconst 0, 1) := by decide +kernel
theorem dX8_restore_34 : decode cX8_restore 34 = .ok (.putfield 331, 3) := by decide +kernel
theorem dX8_restore_37 : decode cX8_restore 37 = .ok (.aload_n 0, 1) := by decide +kernel
theorem dX8_restore_38 : decode cX8_restore 38 = .ok (.getfield 10, 3) := by decide +kernel
theorem dX8_restore_41 : decode cX8_restore 41 = .ok (.getfield 72, 3) := by decide +kernel
theorem dX8_restore_44 : decode cX8_restore 44 = .ok (.ireturn, 1) := by decide +kernel
theorem dX8_requireGame_0 : decode cX8_requireGame 0 = .ok (.aload_n 0, 1) := by decide +kernel
theorem dX8_requireGame_1 : decode cX8_requireGame 1 = .ok (.getfield 10, 3) := by decide +kernel
theorem dX8_requireGame_4 : decode cX8_requireGame 4 = .ok (.getfield 66, 3) := by decide +kernel
theorem dX8_requireGame_7 : decode cX8_requireGame 7 = .ok (.ifCond .ne 14, 3) := by decide +kernel
theorem dX8_requireGame_10 : decode cX8_requireGame 10 = .ok (.new 51, 3) := by decide +kernel
theorem dX8_requireGame_13 : decode cX8_requireGame 13 = .ok (.dup, 1) := by decide +kernel
theorem dX8_requireGame_14 : decode cX8_requireGame 14 = .ok (.ldc_w 342, 3) := by decide +kernel
theorem dX8_requireGame_17 : decode cX8_requireGame 17 = .ok (.invokespecial 55, 3) := by decide +kernel
theorem dX8_requireGame_20 : decode cX8_requireGame 20 = .ok (.athrow, 1) := by decide +kernel
theorem dX8_requireGame_21 : decode cX8_requireGame 21 = .ok (.return_, 1) := by decide +kernel
theorem dX8_requireIndex_0 : decode cX8_requireIndex 0 = .ok (.iload_n 0, 1) := by decide +kernel
theorem dX8_requireIndex_1 : decode cX8_requireIndex 1 = .ok (.iload_n 1, 1) := by decide +kernel
theorem dX8_requireIndex_2 : decode cX8_requireIndex 2 = .ok (.invokestatic 344, 3) := by decide +kernel
theorem dX8_requireIndex_5 : decode cX8_requireIndex 5 = .ok (.ifCond .ne 14, 3) := by decide +kernel
theorem dX8_requireIndex_8 : decode cX8_requireIndex 8 = .ok (.new 348, 3) := by decide +kernel
theorem dX8_requireIndex_11 : decode cX8_requireIndex 11 = .ok (.dup, 1) := by decide +kernel
theorem dX8_requireIndex_12 : decode cX8_requireIndex 12 = .ok (.ldc_w 350, 3) := by decide +kernel
theorem dX8_requireIndex_15 : decode cX8_requireIndex 15 = .ok (.invokespecial 352, 3) := by decide +kernel
theorem dX8_requireIndex_18 : decode cX8_requireIndex 18 = .ok (.athrow, 1) := by decide +kernel
theorem dX8_requireIndex_19 : decode cX8_requireIndex 19 = .ok (.return_, 1) := by decide +kernel
theorem dX8_requireRecord_0 : decode cX8_requireRecord 0 = .ok (.iload_n 1, 1) := by decide +kernel
theorem dX8_requireRecord_1 : decode cX8_requireRecord 1 = .ok (.aload_n 0, 1) := by decide +kernel
theorem dX8_requireRecord_2 : decode cX8_requireRecord 2 = .ok (.getfield 10, 3) := by decide +kernel
theorem dX8_requireRecord_5 : decode cX8_requireRecord 5 = .ok (.getfield 201, 3) := by decide +kernel
theorem dX8_requireRecord_8 : decode cX8_requireRecord 8 = .ok (.getfield 205, 3) := by decide +kernel
theorem dX8_requireRecord_11 : decode cX8_requireRecord 11 = .ok (.invokestatic 344, 3) := by decide +kernel
theorem dX8_requireRecord_14 : decode cX8_requireRecord 14 = .ok (.ifCond .ne 14, 3) := by decide +kernel
theorem dX8_requireRecord_17 : decode cX8_requireRecord 17 = .ok (.new 76, 3) := by decide +kernel
theorem dX8_requireRecord_20 : decode cX8_requireRecord 20 = .ok (.dup, 1) := by decide +kernel
theorem dX8_requireRecord_21 : decode cX8_requireRecord 21 = .ok (.ldc_w 353, 3) := by decide +kernel
theorem dX8_requireRecord_24 : decode cX8_requireRecord 24 = .ok (.invokespecial 80, 3) := by decide +kernel
theorem dX8_requireRecord_27 : decode cX8_requireRecord 27 = .ok (.athrow, 1) := by decide +kernel
theorem dX8_requireRecord_28 : decode cX8_requireRecord 28 = .ok (.return_, 1) := by decide +kernel
theorem dX8_requireBumperRun_0 : decode cX8_requireBumperRun 0 = .ok (.iload_n 1, 1) := by decide +kernel
theorem dX8_requireBumperRun_1 : decode cX8_requireBumperRun 1 = .ok (.iconst 3, 1) := by decide +kernel
theorem dX8_requireBumperRun_2 : decode cX8_requireBumperRun 2 = .ok (.invokestatic 84, 3) := by decide +kernel
theorem dX8_requireBumperRun_5 : decode cX8_requireBumperRun 5 = .ok (.iload_n 2, 1) := by decide +kernel
theorem dX8_requireBumperRun_6 : decode cX8_requireBumperRun 6 = .ok (.ifCond .lt 9, 3) := by decide +kernel
theorem dX8_requireBumperRun_9 : decode cX8_requireBumperRun 9 = .ok (.iload_n 2, 1) := by decide +kernel
theorem dX8_requireBumperRun_10 : decode cX8_requireBumperRun 10 = .ok (.bipush 50, 2) := by decide +kernel
theorem dX8_requireBumperRun_12 : decode cX8_requireBumperRun 12 = .ok (.if_icmp .le 14, 3) := by decide +kernel
theorem dX8_requireBumperRun_15 : decode cX8_requireBumperRun 15 = .ok (.new 105, 3) := by decide +kernel
theorem dX8_requireBumperRun_18 : decode cX8_requireBumperRun 18 = .ok (.dup, 1) := by decide +kernel
theorem dX8_requireBumperRun_19 : decode cX8_requireBumperRun 19 = .ok (.ldc_w 355, 3) := by decide +kernel
theorem dX8_requireBumperRun_22 : decode cX8_requireBumperRun 22 = .ok (.invokespecial 109, 3) := by decide +kernel
theorem dX8_requireBumperRun_25 : decode cX8_requireBumperRun 25 = .ok (.athrow, 1) := by decide +kernel
theorem dX8_requireBumperRun_26 : decode cX8_requireBumperRun 26 = .ok (.aload_n 0, 1) := by decide +kernel
theorem dX8_requireBumperRun_27 : decode cX8_requireBumperRun 27 = .ok (.invokevirtual 88, 3) := by decide +kernel
theorem dX8_requireBumperRun_30 : decode cX8_requireBumperRun 30 = .ok (.return_, 1) := by decide +kernel
theorem dX8_isIndex_0 : decode cX8_isIndex 0 = .ok (.iload_n 0, 1) := by decide +kernel
theorem dX8_isIndex_1 : decode cX8_isIndex 1 = .ok (.ifCond .lt 12, 3) := by decide +kernel
theorem dX8_isIndex_4 : decode cX8_isIndex 4 = .ok (.iload_n 0, 1) := by decide +kernel
theorem dX8_isIndex_5 : decode cX8_isIndex 5 = .ok (.iload_n 1, 1) := by decide +kernel
theorem dX8_isIndex_6 : decode cX8_isIndex 6 = .ok (.if_icmp .ge 7, 3) := by decide +kernel
theorem dX8_isIndex_9 : decode cX8_isIndex 9 = .ok (.iconst 1, 1) := by decide +kernel
theorem dX8_isIndex_10 : decode cX8_isIndex 10 = .ok (.goto 4, 3) := by decide +kernel
theorem dX8_isIndex_13 : decode cX8_isIndex 13 = .ok (.iconst 0, 1) := by decide +kernel
theorem dX8_isIndex_14 : decode cX8_isIndex 14 = .ok (.ireturn, 1) := by decide +kernel
theorem dX8_isForce_0 : decode cX8_isForce 0 = .ok (.iload_n 0, 1) := by decide +kernel
theorem dX8_isForce_1 : decode cX8_isForce 1 = .ok (.iconst 1, 1) := by decide +kernel
theorem dX8_isForce_2 : decode cX8_isForce 2 = .ok (.if_icmp .lt 12, 3) := by decide +kernel
theorem dX8_isForce_5 : decode cX8_isForce 5 = .ok (.iload_n 0, 1) := by decide +kernel
theorem dX8_isForce_6 : decode cX8_isForce 6 = .ok (.iconst 3, 1) := by decide +kernel
theorem dX8_isForce_7 : decode cX8_isForce 7 = .ok (.if_icmp .gt 7, 3) := by decide +kernel
theorem dX8_isForce_10 : decode cX8_isForce 10 = .ok (.iconst 1, 1) := by decide +kernel
theorem dX8_isForce_11 : decode cX8_isForce 11 = .ok (.goto 4, 3) := by decide +kernel
theorem dX8_isForce_14 : decode cX8_isForce 14 = .ok (.iconst 0, 1) := by decide +kernel
theorem dX8_isForce_15 : decode cX8_isForce 15 = .ok (.ireturn, 1) := by decide +kernel
theorem dX8_kindIndex_0 : decode cX8_kindIndex 0 = .ok (.iload_n 0, 1) := by decide +kernel
theorem dX8_kindIndex_1 : decode cX8_kindIndex 1 = .ok (.lookupswitch 51 #[(98, 45), (108, 43), (116, 47), (117, 49)], 43) := by decide +kernel
theorem dX8_kindIndex_44 : decode cX8_kindIndex 44 = .ok (.iconst 0, 1) := by decide +kernel
theorem dX8_kindIndex_45 : decode cX8_kindIndex 45 = .ok (.ireturn, 1) := by decide +kernel
theorem dX8_kindIndex_46 : decode cX8_kindIndex 46 = .ok (.iconst 1, 1) := by decide +kernel
theorem dX8_kindIndex_47 : decode cX8_kindIndex 47 = .ok (.ireturn, 1) := by decide +kernel
theorem dX8_kindIndex_48 : decode cX8_kindIndex 48 = .ok (.iconst 2, 1) := by decide +kernel
theorem dX8_kindIndex_49 : decode cX8_kindIndex 49 = .ok (.ireturn, 1) := by decide +kernel
theorem dX8_kindIndex_50 : decode cX8_kindIndex 50 = .ok (.iconst 3, 1) := by decide +kernel
theorem dX8_kindIndex_51 : decode cX8_kindIndex 51 = .ok (.ireturn, 1) := by decide +kernel
theorem dX8_kindIndex_52 : decode cX8_kindIndex 52 = .ok (.iconst (-1), 1) := by decide +kernel
theorem dX8_kindIndex_53 : decode cX8_kindIndex 53 = .ok (.ireturn, 1) := by decide +kernel
theorem dX8_allTrue_0 : decode cX8_allTrue 0 = .ok (.aload_n 0, 1) := by decide +kernel
theorem dX8_allTrue_1 : decode cX8_allTrue 1 = .ok (.astore_n 1, 1) := by decide +kernel
theorem dX8_allTrue_2 : decode cX8_allTrue 2 = .ok (.aload_n 1, 1) := by decide +kernel
theorem dX8_allTrue_3 : decode cX8_allTrue 3 = .ok (.arraylength, 1) := by decide +kernel
theorem dX8_allTrue_4 : decode cX8_allTrue 4 = .ok (.istore_n 2, 1) := by decide +kernel
theorem dX8_allTrue_5 : decode cX8_allTrue 5 = .ok (.iconst 0, 1) := by decide +kernel
theorem dX8_allTrue_6 : decode cX8_allTrue 6 = .ok (.istore_n 3, 1) := by decide +kernel
theorem dX8_allTrue_7 : decode cX8_allTrue 7 = .ok (.iload_n 3, 1) := by decide +kernel
theorem dX8_allTrue_8 : decode cX8_allTrue 8 = .ok (.iload_n 2, 1) := by decide +kernel
theorem dX8_allTrue_9 : decode cX8_allTrue 9 = .ok (.if_icmp .ge 21, 3) := by decide +kernel
theorem dX8_allTrue_12 : decode cX8_allTrue 12 = .ok (.aload_n 1, 1) := by decide +kernel
theorem dX8_allTrue_13 : decode cX8_allTrue 13 = .ok (.iload_n 3, 1) := by decide +kernel
theorem dX8_allTrue_14 : decode cX8_allTrue 14 = .ok (.baload, 1) := by decide +kernel
theorem dX8_allTrue_15 : decode cX8_allTrue 15 = .ok (.istore 4, 2) := by decide +kernel
theorem dX8_allTrue_17 : decode cX8_allTrue 17 = .ok (.iload 4, 2) := by decide +kernel
theorem dX8_allTrue_19 : decode cX8_allTrue 19 = .ok (.ifCond .ne 5, 3) := by decide +kernel
theorem dX8_allTrue_22 : decode cX8_allTrue 22 = .ok (.iconst 0, 1) := by decide +kernel
theorem dX8_allTrue_23 : decode cX8_allTrue 23 = .ok (.ireturn, 1) := by decide +kernel
theorem dX8_allTrue_24 : decode cX8_allTrue 24 = .ok (.iinc 3 1, 3) := by decide +kernel
theorem dX8_allTrue_27 : decode cX8_allTrue 27 = .ok (.goto (-20), 3) := by decide +kernel
theorem dX8_allTrue_30 : decode cX8_allTrue 30 = .ok (.iconst 1, 1) := by decide +kernel
theorem dX8_allTrue_31 : decode cX8_allTrue 31 = .ok (.ireturn, 1) := by decide +kernel
theorem dX8_clearAll_0 : decode cX8_clearAll 0 = .ok (.iconst 0, 1) := by decide +kernel
theorem dX8_clearAll_1 : decode cX8_clearAll 1 = .ok (.istore_n 1, 1) := by decide +kernel
theorem dX8_clearAll_2 : decode cX8_clearAll 2 = .ok (.iload_n 1, 1) := by decide +kernel
theorem dX8_clearAll_3 : decode cX8_clearAll 3 = .ok (.aload_n 0, 1) := by decide +kernel
theorem dX8_clearAll_4 : decode cX8_clearAll 4 = .ok (.arraylength, 1) := by decide +kernel
theorem dX8_clearAll_5 : decode cX8_clearAll 5 = .ok (.if_icmp .ge 13, 3) := by decide +kernel
theorem dX8_clearAll_8 : decode cX8_clearAll 8 = .ok (.aload_n 0, 1) := by decide +kernel
theorem dX8_clearAll_9 : decode cX8_clearAll 9 = .ok (.iload_n 1, 1) := by decide +kernel
theorem dX8_clearAll_10 : decode cX8_clearAll 10 = .ok (.iconst 0, 1) := by decide +kernel
theorem dX8_clearAll_11 : decode cX8_clearAll 11 = .ok (.bastore, 1) := by decide +kernel
theorem dX8_clearAll_12 : decode cX8_clearAll 12 = .ok (.iinc 1 1, 3) := by decide +kernel
theorem dX8_clearAll_15 : decode cX8_clearAll 15 = .ok (.goto (-13), 3) := by decide +kernel
theorem dX8_clearAll_18 : decode cX8_clearAll 18 = .ok (.return_, 1) := by decide +kernel
theorem dX8_copyAll_0 : decode cX8_copyAll 0 = .ok (.iconst 0, 1) := by decide +kernel
theorem dX8_copyAll_1 : decode cX8_copyAll 1 = .ok (.istore_n 2, 1) := by decide +kernel
theorem dX8_copyAll_2 : decode cX8_copyAll 2 = .ok (.iload_n 2, 1) := by decide +kernel
theorem dX8_copyAll_3 : decode cX8_copyAll 3 = .ok (.aload_n 0, 1) := by decide +kernel
theorem dX8_copyAll_4 : decode cX8_copyAll 4 = .ok (.arraylength, 1) := by decide +kernel
theorem dX8_copyAll_5 : decode cX8_copyAll 5 = .ok (.if_icmp .ge 21, 3) := by decide +kernel
theorem dX8_copyAll_8 : decode cX8_copyAll 8 = .ok (.iload_n 2, 1) := by decide +kernel
theorem dX8_copyAll_9 : decode cX8_copyAll 9 = .ok (.aload_n 1, 1) := by decide +kernel
theorem dX8_copyAll_10 : decode cX8_copyAll 10 = .ok (.arraylength, 1) := by decide +kernel
theorem dX8_copyAll_11 : decode cX8_copyAll 11 = .ok (.if_icmp .ge 15, 3) := by decide +kernel
theorem dX8_copyAll_14 : decode cX8_copyAll 14 = .ok (.aload_n 1, 1) := by decide +kernel
theorem dX8_copyAll_15 : decode cX8_copyAll 15 = .ok (.iload_n 2, 1) := by decide +kernel
theorem dX8_copyAll_16 : decode cX8_copyAll 16 = .ok (.aload_n 0, 1) := by decide +kernel
theorem dX8_copyAll_17 : decode cX8_copyAll 17 = .ok (.iload_n 2, 1) := by decide +kernel
theorem dX8_copyAll_18 : decode cX8_copyAll 18 = .ok (.baload, 1) := by decide +kernel
theorem dX8_copyAll_19 : decode cX8_copyAll 19 = .ok (.bastore, 1) := by decide +kernel
theorem dX8_copyAll_20 : decode cX8_copyAll 20 = .ok (.iinc 2 1, 3) := by decide +kernel
theorem dX8_copyAll_23 : decode cX8_copyAll 23 = .ok (.goto (-21), 3) := by decide +kernel
theorem dX8_copyAll_26 : decode cX8_copyAll 26 = .ok (.return_, 1) := by decide +kernel
theorem dX8_simulatedLanes_0 : decode cX8_simulatedLanes 0 = .ok (.aload_n 0, 1) := by decide +kernel
theorem dX8_simulatedLanes_1 : decode cX8_simulatedLanes 1 = .ok (.getfield 29, 3) := by decide +kernel
theorem dX8_simulatedLanes_4 : decode cX8_simulatedLanes 4 = .ok (.aload_n 0, 1) := by decide +kernel
theorem dX8_simulatedLanes_5 : decode cX8_simulatedLanes 5 = .ok (.getfield 10, 3) := by decide +kernel
theorem dX8_simulatedLanes_8 : decode cX8_simulatedLanes 8 = .ok (.getfield 140, 3) := by decide +kernel
theorem dX8_simulatedLanes_11 : decode cX8_simulatedLanes 11 = .ok (.invokevirtual 357, 3) := by decide +kernel
theorem dX8_simulatedLanes_14 : decode cX8_simulatedLanes 14 = .ok (.iconst 0, 1) := by decide +kernel
theorem dX8_simulatedLanes_15 : decode cX8_simulatedLanes 15 = .ok (.istore_n 1, 1) := by decide +kernel
theorem dX8_simulatedLanes_16 : decode cX8_simulatedLanes 16 = .ok (.iconst 0, 1) := by decide +kernel
theorem dX8_simulatedLanes_17 : decode cX8_simulatedLanes 17 = .ok (.istore_n 2, 1) := by decide +kernel
theorem dX8_simulatedLanes_18 : decode cX8_simulatedLanes 18 = .ok (.iload_n 2, 1) := by decide +kernel
theorem dX8_simulatedLanes_19 : decode cX8_simulatedLanes 19 = .ok (.iconst 4, 1) := by decide +kernel
theorem dX8_simulatedLanes_20 : decode cX8_simulatedLanes 20 = .ok (.if_icmp .ge 35, 3) := by decide +kernel
theorem dX8_simulatedLanes_23 : decode cX8_simulatedLanes 23 = .ok (.aload_n 0, 1) := by decide +kernel
theorem dX8_simulatedLanes_24 : decode cX8_simulatedLanes 24 = .ok (.getfield 10, 3) := by decide +kernel
theorem dX8_simulatedLanes_27 : decode cX8_simulatedLanes 27 = .ok (.getfield 140, 3) := by decide +kernel
theorem dX8_simulatedLanes_30 : decode cX8_simulatedLanes 30 = .ok (.getfield 146, 3) := by decide +kernel
theorem dX8_simulatedLanes_33 : decode cX8_simulatedLanes 33 = .ok (.iload_n 2, 1) := by decide +kernel
theorem dX8_simulatedLanes_34 : decode cX8_simulatedLanes 34 = .ok (.baload, 1) := by decide +kernel
theorem dX8_simulatedLanes_35 : decode cX8_simulatedLanes 35 = .ok (.ifCond .ne 14, 3) := by decide +kernel
theorem dX8_simulatedLanes_38 : decode cX8_simulatedLanes 38 = .ok (.iload_n 1, 1) := by decide +kernel
theorem dX8_simulatedLanes_39 : decode cX8_simulatedLanes 39 = .ok (.aload_n 0, 1) := by decide +kernel
theorem dX8_simulatedLanes_40 : decode cX8_simulatedLanes 40 = .ok (.getfield 29, 3) := by decide +kernel
theorem dX8_simulatedLanes_43 : decode cX8_simulatedLanes 43 = .ok (.iload_n 2, 1) := by decide +kernel
theorem dX8_simulatedLanes_44 : decode cX8_simulatedLanes 44 = .ok (.invokevirtual 360, 3) := by decide +kernel
theorem dX8_simulatedLanes_47 : decode cX8_simulatedLanes 47 = .ok (.iadd, 1) := by decide +kernel
theorem dX8_simulatedLanes_48 : decode cX8_simulatedLanes 48 = .ok (.istore_n 1, 1) := by decide +kernel
theorem dX8_simulatedLanes_49 : decode cX8_simulatedLanes 49 = .ok (.iinc 2 1, 3) := by decide +kernel
theorem dX8_simulatedLanes_52 : decode cX8_simulatedLanes 52 = .ok (.goto (-34), 3) := by decide +kernel
theorem dX8_simulatedLanes_55 : decode cX8_simulatedLanes 55 = .ok (.iload_n 1, 1) := by decide +kernel
theorem dX8_simulatedLanes_56 : decode cX8_simulatedLanes 56 = .ok (.ireturn, 1) := by decide +kernel
theorem dX8_simulatedBumper_0 : decode cX8_simulatedBumper 0 = .ok (.aload_n 0, 1) := by decide +kernel
theorem dX8_simulatedBumper_1 : decode cX8_simulatedBumper 1 = .ok (.getfield 29, 3) := by decide +kernel
theorem dX8_simulatedBumper_4 : decode cX8_simulatedBumper 4 = .ok (.aload_n 0, 1) := by decide +kernel
theorem dX8_simulatedBumper_5 : decode cX8_simulatedBumper 5 = .ok (.getfield 10, 3) := by decide +kernel
theorem dX8_simulatedBumper_8 : decode cX8_simulatedBumper 8 = .ok (.getfield 140, 3) := by decide +kernel
theorem dX8_simulatedBumper_11 : decode cX8_simulatedBumper 11 = .ok (.invokevirtual 357, 3) := by decide +kernel
theorem dX8_simulatedBumper_14 : decode cX8_simulatedBumper 14 = .ok (.iconst 0, 1) := by decide +kernel
theorem dX8_simulatedBumper_15 : decode cX8_simulatedBumper 15 = .ok (.istore_n 3, 1) := by decide +kernel
theorem dX8_simulatedBumper_16 : decode cX8_simulatedBumper 16 = .ok (.iconst 0, 1) := by decide +kernel
theorem dX8_simulatedBumper_17 : decode cX8_simulatedBumper 17 = .ok (.istore 4, 2) := by decide +kernel
theorem dX8_simulatedBumper_19 : decode cX8_simulatedBumper 19 = .ok (.iload 4, 2) := by decide +kernel
theorem dX8_simulatedBumper_21 : decode cX8_simulatedBumper 21 = .ok (.iload_n 2, 1) := by decide +kernel
theorem dX8_simulatedBumper_22 : decode cX8_simulatedBumper 22 = .ok (.if_icmp .ge 20, 3) := by decide +kernel
theorem dX8_simulatedBumper_25 : decode cX8_simulatedBumper 25 = .ok (.iload_n 3, 1) := by decide +kernel
theorem dX8_simulatedBumper_26 : decode cX8_simulatedBumper 26 = .ok (.aload_n 0, 1) := by decide +kernel
theorem dX8_simulatedBumper_27 : decode cX8_simulatedBumper 27 = .ok (.getfield 29, 3) := by decide +kernel
theorem dX8_simulatedBumper_30 : decode cX8_simulatedBumper 30 = .ok (.iload_n 1, 1) := by decide +kernel
theorem dX8_simulatedBumper_31 : decode cX8_simulatedBumper 31 = .ok (.invokevirtual 363, 3) := by decide +kernel
theorem dX8_simulatedBumper_34 : decode cX8_simulatedBumper 34 = .ok (.iadd, 1) := by decide +kernel
theorem dX8_simulatedBumper_35 : decode cX8_simulatedBumper 35 = .ok (.istore_n 3, 1) := by decide +kernel
theorem dX8_simulatedBumper_36 : decode cX8_simulatedBumper 36 = .ok (.iinc 4 1, 3) := by decide +kernel
theorem dX8_simulatedBumper_39 : decode cX8_simulatedBumper 39 = .ok (.goto (-20), 3) := by decide +kernel
theorem dX8_simulatedBumper_42 : decode cX8_simulatedBumper 42 = .ok (.iload_n 3, 1) := by decide +kernel
theorem dX8_simulatedBumper_43 : decode cX8_simulatedBumper 43 = .ok (.ireturn, 1) := by decide +kernel
theorem dX8_predictionsAgree_0 : decode cX8_predictionsAgree 0 = .ok (.aload_n 0, 1) := by decide +kernel
theorem dX8_predictionsAgree_1 : decode cX8_predictionsAgree 1 = .ok (.invokevirtual 177, 3) := by decide +kernel
theorem dX8_predictionsAgree_4 : decode cX8_predictionsAgree 4 = .ok (.aload_n 0, 1) := by decide +kernel
theorem dX8_predictionsAgree_5 : decode cX8_predictionsAgree 5 = .ok (.getfield 10, 3) := by decide +kernel
theorem dX8_predictionsAgree_8 : decode cX8_predictionsAgree 8 = .ok (.getfield 140, 3) := by decide +kernel
theorem dX8_predictionsAgree_11 : decode cX8_predictionsAgree 11 = .ok (.invokevirtual 180, 3) := by decide +kernel
theorem dX8_predictionsAgree_14 : decode cX8_predictionsAgree 14 = .ok (.if_icmp .eq 5, 3) := by decide +kernel
theorem dX8_predictionsAgree_17 : decode cX8_predictionsAgree 17 = .ok (.iconst 0, 1) := by decide +kernel
theorem dX8_predictionsAgree_18 : decode cX8_predictionsAgree 18 = .ok (.ireturn, 1) := by decide +kernel
theorem dX8_predictionsAgree_19 : decode cX8_predictionsAgree 19 = .ok (.iconst 0, 1) := by decide +kernel
theorem dX8_predictionsAgree_20 : decode cX8_predictionsAgree 20 = .ok (.istore_n 1, 1) := by decide +kernel
theorem dX8_predictionsAgree_21 : decode cX8_predictionsAgree 21 = .ok (.iload_n 1, 1) := by decide +kernel
theorem dX8_predictionsAgree_22 : decode cX8_predictionsAgree 22 = .ok (.iconst 3, 1) := by decide +kernel
theorem dX8_predictionsAgree_23 : decode cX8_predictionsAgree 23 = .ok (.if_icmp .ge 46, 3) := by decide +kernel
theorem dX8_predictionsAgree_26 : decode cX8_predictionsAgree 26 = .ok (.iconst 0, 1) := by decide +kernel
theorem dX8_predictionsAgree_27 : decode cX8_predictionsAgree 27 = .ok (.istore_n 2, 1) := by decide +kernel
theorem dX8_predictionsAgree_28 : decode cX8_predictionsAgree 28 = .ok (.iload_n 2, 1) := by decide +kernel
theorem dX8_predictionsAgree_29 : decode cX8_predictionsAgree 29 = .ok (.bipush 20, 2) := by decide +kernel
theorem dX8_predictionsAgree_31 : decode cX8_predictionsAgree 31 = .ok (.if_icmp .gt 32, 3) := by decide +kernel
theorem dX8_predictionsAgree_34 : decode cX8_predictionsAgree 34 = .ok (.aload_n 0, 1) := by decide +kernel
theorem dX8_predictionsAgree_35 : decode cX8_predictionsAgree 35 = .ok (.iload_n 1, 1) := by decide +kernel
theorem dX8_predictionsAgree_36 : decode cX8_predictionsAgree 36 = .ok (.iload_n 2, 1) := by decide +kernel
theorem dX8_predictionsAgree_37 : decode cX8_predictionsAgree 37 = .ok (.invokevirtual 186, 3) := by decide +kernel
theorem dX8_predictionsAgree_40 : decode cX8_predictionsAgree 40 = .ok (.aload_n 0, 1) := by decide +kernel
theorem dX8_predictionsAgree_41 : decode cX8_predictionsAgree 41 = .ok (.getfield 10, 3) := by decide +kernel
theorem dX8_predictionsAgree_44 : decode cX8_predictionsAgree 44 = .ok (.getfield 140, 3) := by decide +kernel
theorem dX8_predictionsAgree_47 : decode cX8_predictionsAgree 47 = .ok (.iload_n 1, 1) := by decide +kernel
theorem dX8_predictionsAgree_48 : decode cX8_predictionsAgree 48 = .ok (.iload_n 2, 1) := by decide +kernel
theorem dX8_predictionsAgree_49 : decode cX8_predictionsAgree 49 = .ok (.invokevirtual 190, 3) := by decide +kernel
theorem dX8_predictionsAgree_52 : decode cX8_predictionsAgree 52 = .ok (.if_icmp .eq 5, 3) := by decide +kernel
theorem dX8_predictionsAgree_55 : decode cX8_predictionsAgree 55 = .ok (.iconst 0, 1) := by decide +kernel
theorem dX8_predictionsAgree_56 : decode cX8_predictionsAgree 56 = .ok (.ireturn, 1) := by decide +kernel
theorem dX8_predictionsAgree_57 : decode cX8_predictionsAgree 57 = .ok (.iinc 2 1, 3) := by decide +kernel
theorem dX8_predictionsAgree_60 : decode cX8_predictionsAgree 60 = .ok (.goto (-32), 3) := by decide +kernel
theorem dX8_predictionsAgree_63 : decode cX8_predictionsAgree 63 = .ok (.iinc 1 1, 3) := by decide +kernel
theorem dX8_predictionsAgree_66 : decode cX8_predictionsAgree 66 = .ok (.goto (-45), 3) := by decide +kernel
theorem dX8_predictionsAgree_69 : decode cX8_predictionsAgree 69 = .ok (.iconst 1, 1) := by decide +kernel
theorem dX8_predictionsAgree_70 : decode cX8_predictionsAgree 70 = .ok (.ireturn, 1) := by decide +kernel
theorem dX8_executeCommands_0 : decode cX8_executeCommands 0 = .ok (.iconst 0, 1) := by decide +kernel
theorem dX8_executeCommands_1 : decode cX8_executeCommands 1 = .ok (.istore_n 1, 1) := by decide +kernel
theorem dX8_executeCommands_2 : decode cX8_executeCommands 2 = .ok (.iload_n 1, 1) := by decide +kernel
theorem dX8_executeCommands_3 : decode cX8_executeCommands 3 = .ok (.aload_n 0, 1) := by decide +kernel
theorem dX8_executeCommands_4 : decode cX8_executeCommands 4 = .ok (.getfield 43, 3) := by decide +kernel
theorem dX8_executeCommands_7 : decode cX8_executeCommands 7 = .ok (.getfield 306, 3) := by decide +kernel
theorem dX8_executeCommands_10 : decode cX8_executeCommands 10 = .ok (.if_icmp .ge 37, 3) := by decide +kernel
theorem dX8_executeCommands_13 : decode cX8_executeCommands 13 = .ok (.aload_n 0, 1) := by decide +kernel
theorem dX8_executeCommands_14 : decode cX8_executeCommands 14 = .ok (.getfield 10, 3) := by decide +kernel
theorem dX8_executeCommands_17 : decode cX8_executeCommands 17 = .ok (.aload_n 0, 1) := by decide +kernel
theorem dX8_executeCommands_18 : decode cX8_executeCommands 18 = .ok (.getfield 43, 3) := by decide +kernel
theorem dX8_executeCommands_21 : decode cX8_executeCommands 21 = .ok (.getfield 366, 3) := by decide +kernel
theorem dX8_executeCommands_24 : decode cX8_executeCommands 24 = .ok (.iload_n 1, 1) := by decide +kernel
theorem dX8_executeCommands_25 : decode cX8_executeCommands 25 = .ok (.aaload, 1) := by decide +kernel
theorem dX8_executeCommands_26 : decode cX8_executeCommands 26 = .ok (.aload_n 0, 1) := by decide +kernel
theorem dX8_executeCommands_27 : decode cX8_executeCommands 27 = .ok (.getfield 43, 3) := by decide +kernel
theorem dX8_executeCommands_30 : decode cX8_executeCommands 30 = .ok (.getfield 370, 3) := by decide +kernel
theorem dX8_executeCommands_33 : decode cX8_executeCommands 33 = .ok (.iload_n 1, 1) := by decide +kernel
theorem dX8_executeCommands_34 : decode cX8_executeCommands 34 = .ok (.iaload, 1) := by decide +kernel
theorem dX8_executeCommands_35 : decode cX8_executeCommands 35 = .ok (.invokevirtual 373, 3) := by decide +kernel
theorem dX8_executeCommands_38 : decode cX8_executeCommands 38 = .ok (.ifCond .eq 9, 3) := by decide +kernel
theorem dX8_executeCommands_41 : decode cX8_executeCommands 41 = .ok (.iinc 1 1, 3) := by decide +kernel
theorem dX8_executeCommands_44 : decode cX8_executeCommands 44 = .ok (.goto (-42), 3) := by decide +kernel
theorem dX8_executeCommands_47 : decode cX8_executeCommands 47 = .ok (.iload_n 1, 1) := by decide +kernel
theorem dX8_executeCommands_48 : decode cX8_executeCommands 48 = .ok (.ireturn, 1) := by decide +kernel
