theorem d_Needs_spread_11 : decode b_Needs_spread 11 = .ok (.getfield 9, 3) := by decide +kernel
theorem d_Needs_spread_14 : decode b_Needs_spread 14 = .ok (.iload 4, 2) := by decide +kernel
theorem d_Needs_spread_16 : decode b_Needs_spread 16 = .ok (.iconst 0, 1) := by decide +kernel
theorem d_Needs_spread_17 : decode b_Needs_spread 17 = .ok (.bastore, 1) := by decide +kernel
theorem d_Needs_spread_18 : decode b_Needs_spread 18 = .ok (.iinc 4 1, 3) := by decide +kernel
theorem d_Needs_spread_21 : decode b_Needs_spread 21 = .ok (.goto (-18), 3) := by decide +kernel
theorem d_Needs_spread_24 : decode b_Needs_spread 24 = .ok (.aload_n 0, 1) := by decide +kernel
theorem d_Needs_spread_25 : decode b_Needs_spread 25 = .ok (.aload_n 1, 1) := by decide +kernel
theorem d_Needs_spread_26 : decode b_Needs_spread 26 = .ok (.getfield 22, 3) := by decide +kernel
theorem d_Needs_spread_29 : decode b_Needs_spread 29 = .ok (.iload_n 2, 1) := by decide +kernel
theorem d_Needs_spread_30 : decode b_Needs_spread 30 = .ok (.iload_n 3, 1) := by decide +kernel
theorem d_Needs_spread_31 : decode b_Needs_spread 31 = .ok (.invokevirtual 28, 3) := by decide +kernel
theorem d_Needs_spread_34 : decode b_Needs_spread 34 = .ok (.aload_n 1, 1) := by decide +kernel
theorem d_Needs_spread_35 : decode b_Needs_spread 35 = .ok (.getfield 22, 3) := by decide +kernel
theorem d_Needs_spread_38 : decode b_Needs_spread 38 = .ok (.istore 4, 2) := by decide +kernel
theorem d_Needs_spread_40 : decode b_Needs_spread 40 = .ok (.iload 4, 2) := by decide +kernel
theorem d_Needs_spread_42 : decode b_Needs_spread 42 = .ok (.ifCond .lt 44, 3) := by decide +kernel
theorem d_Needs_spread_45 : decode b_Needs_spread 45 = .ok (.aload_n 0, 1) := by decide +kernel
theorem d_Needs_spread_46 : decode b_Needs_spread 46 = .ok (.getfield 9, 3) := by decide +kernel
theorem d_Needs_spread_49 : decode b_Needs_spread 49 = .ok (.iload 4, 2) := by decide +kernel
theorem d_Needs_spread_51 : decode b_Needs_spread 51 = .ok (.baload, 1) := by decide +kernel
theorem d_Needs_spread_52 : decode b_Needs_spread 52 = .ok (.ifCond .eq 28, 3) := by decide +kernel
theorem d_Needs_spread_55 : decode b_Needs_spread 55 = .ok (.aload_n 0, 1) := by decide +kernel
theorem d_Needs_spread_56 : decode b_Needs_spread 56 = .ok (.aload_n 1, 1) := by decide +kernel
theorem d_Needs_spread_57 : decode b_Needs_spread 57 = .ok (.getfield 32, 3) := by decide +kernel
theorem d_Needs_spread_60 : decode b_Needs_spread 60 = .ok (.iload 4, 2) := by decide +kernel
theorem d_Needs_spread_62 : decode b_Needs_spread 62 = .ok (.aaload, 1) := by decide +kernel
theorem d_Needs_spread_63 : decode b_Needs_spread 63 = .ok (.aload_n 0, 1) := by decide +kernel
theorem d_Needs_spread_64 : decode b_Needs_spread 64 = .ok (.getfield 15, 3) := by decide +kernel
theorem d_Needs_spread_67 : decode b_Needs_spread 67 = .ok (.iload 4, 2) := by decide +kernel
theorem d_Needs_spread_69 : decode b_Needs_spread 69 = .ok (.iaload, 1) := by decide +kernel
theorem d_Needs_spread_70 : decode b_Needs_spread 70 = .ok (.aload_n 0, 1) := by decide +kernel
theorem d_Needs_spread_71 : decode b_Needs_spread 71 = .ok (.getfield 19, 3) := by decide +kernel
theorem d_Needs_spread_74 : decode b_Needs_spread 74 = .ok (.iload 4, 2) := by decide +kernel
theorem d_Needs_spread_76 : decode b_Needs_spread 76 = .ok (.iaload, 1) := by decide +kernel
theorem d_Needs_spread_77 : decode b_Needs_spread 77 = .ok (.invokevirtual 36, 3) := by decide +kernel
theorem d_Needs_spread_80 : decode b_Needs_spread 80 = .ok (.iinc 4 (-1), 3) := by decide +kernel
theorem d_Needs_spread_83 : decode b_Needs_spread 83 = .ok (.goto (-43), 3) := by decide +kernel
theorem d_Needs_spread_86 : decode b_Needs_spread 86 = .ok (.return_, 1) := by decide +kernel
theorem d_Needs_handOn_0 : decode b_Needs_handOn 0 = .ok (.iconst 0, 1) := by decide +kernel
theorem d_Needs_handOn_1 : decode b_Needs_handOn 1 = .ok (.istore 4, 2) := by decide +kernel
theorem d_Needs_handOn_3 : decode b_Needs_handOn 3 = .ok (.iload 4, 2) := by decide +kernel
theorem d_Needs_handOn_5 : decode b_Needs_handOn 5 = .ok (.aload_n 1, 1) := by decide +kernel
theorem d_Needs_handOn_6 : decode b_Needs_handOn 6 = .ok (.getfield 40, 3) := by decide +kernel
theorem d_Needs_handOn_9 : decode b_Needs_handOn 9 = .ok (.if_icmp .ge 49, 3) := by decide +kernel
theorem d_Needs_handOn_12 : decode b_Needs_handOn 12 = .ok (.aload_n 1, 1) := by decide +kernel
theorem d_Needs_handOn_13 : decode b_Needs_handOn 13 = .ok (.getfield 45, 3) := by decide +kernel
theorem d_Needs_handOn_16 : decode b_Needs_handOn 16 = .ok (.iload 4, 2) := by decide +kernel
theorem d_Needs_handOn_18 : decode b_Needs_handOn 18 = .ok (.iaload, 1) := by decide +kernel
theorem d_Needs_handOn_19 : decode b_Needs_handOn 19 = .ok (.iconst (-1), 1) := by decide +kernel
theorem d_Needs_handOn_20 : decode b_Needs_handOn 20 = .ok (.if_icmp .eq 32, 3) := by decide +kernel
theorem d_Needs_handOn_23 : decode b_Needs_handOn 23 = .ok (.aload_n 0, 1) := by decide +kernel
theorem d_Needs_handOn_24 : decode b_Needs_handOn 24 = .ok (.aload_n 1, 1) := by decide +kernel
theorem d_Needs_handOn_25 : decode b_Needs_handOn 25 = .ok (.getfield 45, 3) := by decide +kernel
theorem d_Needs_handOn_28 : decode b_Needs_handOn 28 = .ok (.iload 4, 2) := by decide +kernel
theorem d_Needs_handOn_30 : decode b_Needs_handOn 30 = .ok (.iaload, 1) := by decide +kernel
theorem d_Needs_handOn_31 : decode b_Needs_handOn 31 = .ok (.iload_n 2, 1) := by decide +kernel
theorem d_Needs_handOn_32 : decode b_Needs_handOn 32 = .ok (.aload_n 1, 1) := by decide +kernel
theorem d_Needs_handOn_33 : decode b_Needs_handOn 33 = .ok (.getfield 48, 3) := by decide +kernel
theorem d_Needs_handOn_36 : decode b_Needs_handOn 36 = .ok (.iload 4, 2) := by decide +kernel
theorem d_Needs_handOn_38 : decode b_Needs_handOn 38 = .ok (.iaload, 1) := by decide +kernel
theorem d_Needs_handOn_39 : decode b_Needs_handOn 39 = .ok (.iadd, 1) := by decide +kernel
theorem d_Needs_handOn_40 : decode b_Needs_handOn 40 = .ok (.iload_n 3, 1) := by decide +kernel
theorem d_Needs_handOn_41 : decode b_Needs_handOn 41 = .ok (.aload_n 1, 1) := by decide +kernel
theorem d_Needs_handOn_42 : decode b_Needs_handOn 42 = .ok (.getfield 48, 3) := by decide +kernel
theorem d_Needs_handOn_45 : decode b_Needs_handOn 45 = .ok (.iload 4, 2) := by decide +kernel
theorem d_Needs_handOn_47 : decode b_Needs_handOn 47 = .ok (.iaload, 1) := by decide +kernel
theorem d_Needs_handOn_48 : decode b_Needs_handOn 48 = .ok (.iadd, 1) := by decide +kernel
theorem d_Needs_handOn_49 : decode b_Needs_handOn 49 = .ok (.invokevirtual 28, 3) := by decide +kernel
theorem d_Needs_handOn_52 : decode b_Needs_handOn 52 = .ok (.iinc 4 1, 3) := by decide +kernel
theorem d_Needs_handOn_55 : decode b_Needs_handOn 55 = .ok (.goto (-52), 3) := by decide +kernel
theorem d_Needs_handOn_58 : decode b_Needs_handOn 58 = .ok (.return_, 1) := by decide +kernel
theorem d_Needs_widen_0 : decode b_Needs_widen 0 = .ok (.aload_n 0, 1) := by decide +kernel
theorem d_Needs_widen_1 : decode b_Needs_widen 1 = .ok (.getfield 15, 3) := by decide +kernel
theorem d_Needs_widen_4 : decode b_Needs_widen 4 = .ok (.iload_n 1, 1) := by decide +kernel
theorem d_Needs_widen_5 : decode b_Needs_widen 5 = .ok (.aload_n 0, 1) := by decide +kernel
theorem d_Needs_widen_6 : decode b_Needs_widen 6 = .ok (.getfield 9, 3) := by decide +kernel
theorem d_Needs_widen_9 : decode b_Needs_widen 9 = .ok (.iload_n 1, 1) := by decide +kernel
theorem d_Needs_widen_10 : decode b_Needs_widen 10 = .ok (.baload, 1) := by decide +kernel
theorem d_Needs_widen_11 : decode b_Needs_widen 11 = .ok (.ifCond .eq 16, 3) := by decide +kernel
theorem d_Needs_widen_14 : decode b_Needs_widen 14 = .ok (.aload_n 0, 1) := by decide +kernel
theorem d_Needs_widen_15 : decode b_Needs_widen 15 = .ok (.getfield 15, 3) := by decide +kernel
theorem d_Needs_widen_18 : decode b_Needs_widen 18 = .ok (.iload_n 1, 1) := by decide +kernel
theorem d_Needs_widen_19 : decode b_Needs_widen 19 = .ok (.iaload, 1) := by decide +kernel
theorem d_Needs_widen_20 : decode b_Needs_widen 20 = .ok (.iload_n 2, 1) := by decide +kernel
theorem d_Needs_widen_21 : decode b_Needs_widen 21 = .ok (.invokestatic 51, 3) := by decide +kernel
theorem d_Needs_widen_24 : decode b_Needs_widen 24 = .ok (.goto 4, 3) := by decide +kernel
theorem d_Needs_widen_27 : decode b_Needs_widen 27 = .ok (.iload_n 2, 1) := by decide +kernel
theorem d_Needs_widen_28 : decode b_Needs_widen 28 = .ok (.iastore, 1) := by decide +kernel
theorem d_Needs_widen_29 : decode b_Needs_widen 29 = .ok (.aload_n 0, 1) := by decide +kernel
theorem d_Needs_widen_30 : decode b_Needs_widen 30 = .ok (.getfield 19, 3) := by decide +kernel
theorem d_Needs_widen_33 : decode b_Needs_widen 33 = .ok (.iload_n 1, 1) := by decide +kernel
theorem d_Needs_widen_34 : decode b_Needs_widen 34 = .ok (.aload_n 0, 1) := by decide +kernel
theorem d_Needs_widen_35 : decode b_Needs_widen 35 = .ok (.getfield 9, 3) := by decide +kernel
theorem d_Needs_widen_38 : decode b_Needs_widen 38 = .ok (.iload_n 1, 1) := by decide +kernel
theorem d_Needs_widen_39 : decode b_Needs_widen 39 = .ok (.baload, 1) := by decide +kernel
theorem d_Needs_widen_40 : decode b_Needs_widen 40 = .ok (.ifCond .eq 16, 3) := by decide +kernel
theorem d_Needs_widen_43 : decode b_Needs_widen 43 = .ok (.aload_n 0, 1) := by decide +kernel
theorem d_Needs_widen_44 : decode b_Needs_widen 44 = .ok (.getfield 19, 3) := by decide +kernel
theorem d_Needs_widen_47 : decode b_Needs_widen 47 = .ok (.iload_n 1, 1) := by decide +kernel
theorem d_Needs_widen_48 : decode b_Needs_widen 48 = .ok (.iaload, 1) := by decide +kernel
theorem d_Needs_widen_49 : decode b_Needs_widen 49 = .ok (.iload_n 3, 1) := by decide +kernel
theorem d_Needs_widen_50 : decode b_Needs_widen 50 = .ok (.invokestatic 57, 3) := by decide +kernel
theorem d_Needs_widen_53 : decode b_Needs_widen 53 = .ok (.goto 4, 3) := by decide +kernel
theorem d_Needs_widen_56 : decode b_Needs_widen 56 = .ok (.iload_n 3, 1) := by decide +kernel
theorem d_Needs_widen_57 : decode b_Needs_widen 57 = .ok (.iastore, 1) := by decide +kernel
theorem d_Needs_widen_58 : decode b_Needs_widen 58 = .ok (.aload_n 0, 1) := by decide +kernel
theorem d_Needs_widen_59 : decode b_Needs_widen 59 = .ok (.getfield 9, 3) := by decide +kernel
theorem d_Needs_widen_62 : decode b_Needs_widen 62 = .ok (.iload_n 1, 1) := by decide +kernel
theorem d_Needs_widen_63 : decode b_Needs_widen 63 = .ok (.iconst 1, 1) := by decide +kernel
theorem d_Needs_widen_64 : decode b_Needs_widen 64 = .ok (.bastore, 1) := by decide +kernel
theorem d_Needs_widen_65 : decode b_Needs_widen 65 = .ok (.return_, 1) := by decide +kernel
theorem d_Needs_lengthOf_0 : decode b_Needs_lengthOf 0 = .ok (.aload_n 0, 1) := by decide +kernel
theorem d_Needs_lengthOf_1 : decode b_Needs_lengthOf 1 = .ok (.getfield 19, 3) := by decide +kernel
theorem d_Needs_lengthOf_4 : decode b_Needs_lengthOf 4 = .ok (.iload_n 1, 1) := by decide +kernel
theorem d_Needs_lengthOf_5 : decode b_Needs_lengthOf 5 = .ok (.iaload, 1) := by decide +kernel
theorem d_Needs_lengthOf_6 : decode b_Needs_lengthOf 6 = .ok (.aload_n 0, 1) := by decide +kernel
theorem d_Needs_lengthOf_7 : decode b_Needs_lengthOf 7 = .ok (.getfield 15, 3) := by decide +kernel
theorem d_Needs_lengthOf_10 : decode b_Needs_lengthOf 10 = .ok (.iload_n 1, 1) := by decide +kernel
theorem d_Needs_lengthOf_11 : decode b_Needs_lengthOf 11 = .ok (.iaload, 1) := by decide +kernel
theorem d_Needs_lengthOf_12 : decode b_Needs_lengthOf 12 = .ok (.isub, 1) := by decide +kernel
theorem d_Needs_lengthOf_13 : decode b_Needs_lengthOf 13 = .ok (.iconst 1, 1) := by decide +kernel
theorem d_Needs_lengthOf_14 : decode b_Needs_lengthOf 14 = .ok (.iadd, 1) := by decide +kernel
theorem d_Needs_lengthOf_15 : decode b_Needs_lengthOf 15 = .ok (.ireturn, 1) := by decide +kernel
theorem d_Pipe_init_0 : decode b_Pipe_init 0 = .ok (.aload_n 0, 1) := by decide +kernel
theorem d_Pipe_init_1 : decode b_Pipe_init 1 = .ok (.invokespecial 3, 3) := by decide +kernel
theorem d_Pipe_init_4 : decode b_Pipe_init 4 = .ok (.aload_n 0, 1) := by decide +kernel
theorem d_Pipe_init_5 : decode b_Pipe_init 5 = .ok (.bipush 8, 2) := by decide +kernel
theorem d_Pipe_init_7 : decode b_Pipe_init 7 = .ok (.anewarray 9, 3) := by decide +kernel
theorem d_Pipe_init_10 : decode b_Pipe_init 10 = .ok (.putfield 11, 3) := by decide +kernel
theorem d_Pipe_init_13 : decode b_Pipe_init 13 = .ok (.aload_n 0, 1) := by decide +kernel
theorem d_Pipe_init_14 : decode b_Pipe_init 14 = .ok (.bipush 8, 2) := by decide +kernel
theorem d_Pipe_init_16 : decode b_Pipe_init 16 = .ok (.newarray .int, 2) := by decide +kernel
theorem d_Pipe_init_18 : decode b_Pipe_init 18 = .ok (.putfield 17, 3) := by decide +kernel
theorem d_Pipe_init_21 : decode b_Pipe_init 21 = .ok (.aload_n 0, 1) := by decide +kernel
theorem d_Pipe_init_22 : decode b_Pipe_init 22 = .ok (.iconst 4, 1) := by decide +kernel
theorem d_Pipe_init_23 : decode b_Pipe_init 23 = .ok (.putfield 21, 3) := by decide +kernel
theorem d_Pipe_init_26 : decode b_Pipe_init 26 = .ok (.aload_n 0, 1) := by decide +kernel
theorem d_Pipe_init_27 : decode b_Pipe_init 27 = .ok (.iconst (-1), 1) := by decide +kernel
theorem d_Pipe_init_28 : decode b_Pipe_init 28 = .ok (.putfield 25, 3) := by decide +kernel
theorem d_Pipe_init_31 : decode b_Pipe_init 31 = .ok (.aload_n 0, 1) := by decide +kernel
theorem d_Pipe_init_32 : decode b_Pipe_init 32 = .ok (.iload_n 1, 1) := by decide +kernel
theorem d_Pipe_init_33 : decode b_Pipe_init 33 = .ok (.newarray .int, 2) := by decide +kernel
theorem d_Pipe_init_35 : decode b_Pipe_init 35 = .ok (.putfield 28, 3) := by decide +kernel
theorem d_Pipe_init_38 : decode b_Pipe_init 38 = .ok (.iconst 0, 1) := by decide +kernel
theorem d_Pipe_init_39 : decode b_Pipe_init 39 = .ok (.istore_n 2, 1) := by decide +kernel
theorem d_Pipe_init_40 : decode b_Pipe_init 40 = .ok (.iload_n 2, 1) := by decide +kernel
theorem d_Pipe_init_41 : decode b_Pipe_init 41 = .ok (.bipush 8, 2) := by decide +kernel
theorem d_Pipe_init_43 : decode b_Pipe_init 43 = .ok (.if_icmp .ge 22, 3) := by decide +kernel
theorem d_Pipe_init_46 : decode b_Pipe_init 46 = .ok (.aload_n 0, 1) := by decide +kernel
theorem d_Pipe_init_47 : decode b_Pipe_init 47 = .ok (.getfield 11, 3) := by decide +kernel
theorem d_Pipe_init_50 : decode b_Pipe_init 50 = .ok (.iload_n 2, 1) := by decide +kernel
theorem d_Pipe_init_51 : decode b_Pipe_init 51 = .ok (.new 9, 3) := by decide +kernel
theorem d_Pipe_init_54 : decode b_Pipe_init 54 = .ok (.dup, 1) := by decide +kernel
theorem d_Pipe_init_55 : decode b_Pipe_init 55 = .ok (.invokespecial 31, 3) := by decide +kernel
theorem d_Pipe_init_58 : decode b_Pipe_init 58 = .ok (.aastore, 1) := by decide +kernel
theorem d_Pipe_init_59 : decode b_Pipe_init 59 = .ok (.iinc 2 1, 3) := by decide +kernel
theorem d_Pipe_init_62 : decode b_Pipe_init 62 = .ok (.goto (-22), 3) := by decide +kernel
theorem d_Pipe_init_65 : decode b_Pipe_init 65 = .ok (.return_, 1) := by decide +kernel
theorem d_Pipe_hasStage_0 : decode b_Pipe_hasStage 0 = .ok (.iload_n 1, 1) := by decide +kernel
theorem d_Pipe_hasStage_1 : decode b_Pipe_hasStage 1 = .ok (.ifCond .lt 15, 3) := by decide +kernel
theorem d_Pipe_hasStage_4 : decode b_Pipe_hasStage 4 = .ok (.iload_n 1, 1) := by decide +kernel
theorem d_Pipe_hasStage_5 : decode b_Pipe_hasStage 5 = .ok (.aload_n 0, 1) := by decide +kernel
theorem d_Pipe_hasStage_6 : decode b_Pipe_hasStage 6 = .ok (.getfield 32, 3) := by decide +kernel
theorem d_Pipe_hasStage_9 : decode b_Pipe_hasStage 9 = .ok (.if_icmp .ge 7, 3) := by decide +kernel
theorem d_Pipe_hasStage_12 : decode b_Pipe_hasStage 12 = .ok (.iconst 1, 1) := by decide +kernel
theorem d_Pipe_hasStage_13 : decode b_Pipe_hasStage 13 = .ok (.goto 4, 3) := by decide +kernel
theorem d_Pipe_hasStage_16 : decode b_Pipe_hasStage 16 = .ok (.iconst 0, 1) := by decide +kernel
theorem d_Pipe_hasStage_17 : decode b_Pipe_hasStage 17 = .ok (.ireturn, 1) := by decide +kernel
theorem d_Pipe_addStage_0 : decode b_Pipe_addStage 0 = .ok (.aload_n 0, 1) := by decide +kernel
theorem d_Pipe_addStage_1 : decode b_Pipe_addStage 1 = .ok (.getfield 11, 3) := by decide +kernel
theorem d_Pipe_addStage_4 : decode b_Pipe_addStage 4 = .ok (.aload_n 0, 1) := by decide +kernel
theorem d_Pipe_addStage_5 : decode b_Pipe_addStage 5 = .ok (.getfield 32, 3) := by decide +kernel
theorem d_Pipe_addStage_8 : decode b_Pipe_addStage 8 = .ok (.aaload, 1) := by decide +kernel
theorem d_Pipe_addStage_9 : decode b_Pipe_addStage 9 = .ok (.astore_n 3, 1) := by decide +kernel
theorem d_Pipe_addStage_10 : decode b_Pipe_addStage 10 = .ok (.aload_n 3, 1) := by decide +kernel
theorem d_Pipe_addStage_11 : decode b_Pipe_addStage 11 = .ok (.iload_n 1, 1) := by decide +kernel
theorem d_Pipe_addStage_12 : decode b_Pipe_addStage 12 = .ok (.putfield 35, 3) := by decide +kernel
theorem d_Pipe_addStage_15 : decode b_Pipe_addStage 15 = .ok (.aload_n 3, 1) := by decide +kernel
theorem d_Pipe_addStage_16 : decode b_Pipe_addStage 16 = .ok (.iload_n 2, 1) := by decide +kernel
theorem d_Pipe_addStage_17 : decode b_Pipe_addStage 17 = .ok (.putfield 38, 3) := by decide +kernel
theorem d_Pipe_addStage_20 : decode b_Pipe_addStage 20 = .ok (.aload_n 0, 1) := by decide +kernel
theorem d_Pipe_addStage_21 : decode b_Pipe_addStage 21 = .ok (.dup, 1) := by decide +kernel
theorem d_Pipe_addStage_22 : decode b_Pipe_addStage 22 = .ok (.getfield 32, 3) := by decide +kernel
theorem d_Pipe_addStage_25 : decode b_Pipe_addStage 25 = .ok (.iconst 1, 1) := by decide +kernel
theorem d_Pipe_addStage_26 : decode b_Pipe_addStage 26 = .ok (.iadd, 1) := by decide +kernel
theorem d_Pipe_addStage_27 : decode b_Pipe_addStage 27 = .ok (.putfield 32, 3) := by decide +kernel
theorem d_Pipe_addStage_30 : decode b_Pipe_addStage 30 = .ok (.aload_n 0, 1) := by decide +kernel
theorem d_Pipe_addStage_31 : decode b_Pipe_addStage 31 = .ok (.getfield 32, 3) := by decide +kernel
theorem d_Pipe_addStage_34 : decode b_Pipe_addStage 34 = .ok (.iconst 1, 1) := by decide +kernel
theorem d_Pipe_addStage_35 : decode b_Pipe_addStage 35 = .ok (.isub, 1) := by decide +kernel
theorem d_Pipe_addStage_36 : decode b_Pipe_addStage 36 = .ok (.ireturn, 1) := by decide +kernel
theorem d_Pipe_tileCount_0 : decode b_Pipe_tileCount 0 = .ok (.aload_n 0, 1) := by decide +kernel
theorem d_Pipe_tileCount_1 : decode b_Pipe_tileCount 1 = .ok (.getfield 41, 3) := by decide +kernel
theorem d_Pipe_tileCount_4 : decode b_Pipe_tileCount 4 = .ok (.aload_n 0, 1) := by decide +kernel
theorem d_Pipe_tileCount_5 : decode b_Pipe_tileCount 5 = .ok (.getfield 21, 3) := by decide +kernel
theorem d_Pipe_tileCount_8 : decode b_Pipe_tileCount 8 = .ok (.iadd, 1) := by decide +kernel
theorem d_Pipe_tileCount_9 : decode b_Pipe_tileCount 9 = .ok (.iconst 1, 1) := by decide +kernel
theorem d_Pipe_tileCount_10 : decode b_Pipe_tileCount 10 = .ok (.isub, 1) := by decide +kernel
theorem d_Pipe_tileCount_11 : decode b_Pipe_tileCount 11 = .ok (.aload_n 0, 1) := by decide +kernel
theorem d_Pipe_tileCount_12 : decode b_Pipe_tileCount 12 = .ok (.getfield 21, 3) := by decide +kernel
theorem d_Pipe_tileCount_15 : decode b_Pipe_tileCount 15 = .ok (.idiv, 1) := by decide +kernel
theorem d_Pipe_tileCount_16 : decode b_Pipe_tileCount 16 = .ok (.ireturn, 1) := by decide +kernel
theorem d_Pipe_tileFirst_0 : decode b_Pipe_tileFirst 0 = .ok (.iload_n 1, 1) := by decide +kernel
theorem d_Pipe_tileFirst_1 : decode b_Pipe_tileFirst 1 = .ok (.aload_n 0, 1) := by decide +kernel
theorem d_Pipe_tileFirst_2 : decode b_Pipe_tileFirst 2 = .ok (.getfield 21, 3) := by decide +kernel
theorem d_Pipe_tileFirst_5 : decode b_Pipe_tileFirst 5 = .ok (.imul, 1) := by decide +kernel
theorem d_Pipe_tileFirst_6 : decode b_Pipe_tileFirst 6 = .ok (.ireturn, 1) := by decide +kernel
theorem d_Pipe_tileLast_0 : decode b_Pipe_tileLast 0 = .ok (.aload_n 0, 1) := by decide +kernel
theorem d_Pipe_tileLast_1 : decode b_Pipe_tileLast 1 = .ok (.iload_n 1, 1) := by decide +kernel
theorem d_Pipe_tileLast_2 : decode b_Pipe_tileLast 2 = .ok (.invokevirtual 44, 3) := by decide +kernel
theorem d_Pipe_tileLast_5 : decode b_Pipe_tileLast 5 = .ok (.aload_n 0, 1) := by decide +kernel
theorem d_Pipe_tileLast_6 : decode b_Pipe_tileLast 6 = .ok (.getfield 21, 3) := by decide +kernel
theorem d_Pipe_tileLast_9 : decode b_Pipe_tileLast 9 = .ok (.iadd, 1) := by decide +kernel
theorem d_Pipe_tileLast_10 : decode b_Pipe_tileLast 10 = .ok (.aload_n 0, 1) := by decide +kernel
theorem d_Pipe_tileLast_11 : decode b_Pipe_tileLast 11 = .ok (.getfield 41, 3) := by decide +kernel
theorem d_Pipe_tileLast_14 : decode b_Pipe_tileLast 14 = .ok (.invokestatic 48, 3) := by decide +kernel
theorem d_Pipe_tileLast_17 : decode b_Pipe_tileLast 17 = .ok (.iconst 1, 1) := by decide +kernel
theorem d_Pipe_tileLast_18 : decode b_Pipe_tileLast 18 = .ok (.isub, 1) := by decide +kernel
theorem d_Pipe_tileLast_19 : decode b_Pipe_tileLast 19 = .ok (.ireturn, 1) := by decide +kernel
theorem d_Pipe_valuesWorkedOutFor_0 : decode b_Pipe_valuesWorkedOutFor 0 = .ok (.iconst 0, 1) := by decide +kernel
theorem d_Pipe_valuesWorkedOutFor_1 : decode b_Pipe_valuesWorkedOutFor 1 = .ok (.istore_n 2, 1) := by decide +kernel
theorem d_Pipe_valuesWorkedOutFor_2 : decode b_Pipe_valuesWorkedOutFor 2 = .ok (.iload_n 2, 1) := by decide +kernel
theorem d_Pipe_valuesWorkedOutFor_3 : decode b_Pipe_valuesWorkedOutFor 3 = .ok (.iload_n 1, 1) := by decide +kernel
theorem d_Pipe_valuesWorkedOutFor_4 : decode b_Pipe_valuesWorkedOutFor 4 = .ok (.if_icmp .gt 76, 3) := by decide +kernel
theorem d_Pipe_valuesWorkedOutFor_7 : decode b_Pipe_valuesWorkedOutFor 7 = .ok (.aload_n 0, 1) := by decide +kernel
theorem d_Pipe_valuesWorkedOutFor_8 : decode b_Pipe_valuesWorkedOutFor 8 = .ok (.getfield 11, 3) := by decide +kernel
theorem d_Pipe_valuesWorkedOutFor_11 : decode b_Pipe_valuesWorkedOutFor 11 = .ok (.iload_n 2, 1) := by decide +kernel
theorem d_Pipe_valuesWorkedOutFor_12 : decode b_Pipe_valuesWorkedOutFor 12 = .ok (.aaload, 1) := by decide +kernel
theorem d_Pipe_valuesWorkedOutFor_13 : decode b_Pipe_valuesWorkedOutFor 13 = .ok (.astore_n 3, 1) := by decide +kernel
theorem d_Pipe_valuesWorkedOutFor_14 : decode b_Pipe_valuesWorkedOutFor 14 = .ok (.iconst 1, 1) := by decide +kernel
theorem d_Pipe_valuesWorkedOutFor_15 : decode b_Pipe_valuesWorkedOutFor 15 = .ok (.istore 4, 2) := by decide +kernel
theorem d_Pipe_valuesWorkedOutFor_17 : decode b_Pipe_valuesWorkedOutFor 17 = .ok (.iconst 0, 1) := by decide +kernel
theorem d_Pipe_valuesWorkedOutFor_18 : decode b_Pipe_valuesWorkedOutFor 18 = .ok (.istore 5, 2) := by decide +kernel
theorem d_Pipe_valuesWorkedOutFor_20 : decode b_Pipe_valuesWorkedOutFor 20 = .ok (.iload 5, 2) := by decide +kernel
theorem d_Pipe_valuesWorkedOutFor_22 : decode b_Pipe_valuesWorkedOutFor 22 = .ok (.aload_n 3, 1) := by decide +kernel
theorem d_Pipe_valuesWorkedOutFor_23 : decode b_Pipe_valuesWorkedOutFor 23 = .ok (.getfield 54, 3) := by decide +kernel
theorem d_Pipe_valuesWorkedOutFor_26 : decode b_Pipe_valuesWorkedOutFor 26 = .ok (.if_icmp .ge 40, 3) := by decide +kernel
theorem d_Pipe_valuesWorkedOutFor_29 : decode b_Pipe_valuesWorkedOutFor 29 = .ok (.aload_n 3, 1) := by decide +kernel
theorem d_Pipe_valuesWorkedOutFor_30 : decode b_Pipe_valuesWorkedOutFor 30 = .ok (.getfield 57, 3) := by decide +kernel
theorem d_Pipe_valuesWorkedOutFor_33 : decode b_Pipe_valuesWorkedOutFor 33 = .ok (.iload 5, 2) := by decide +kernel
theorem d_Pipe_valuesWorkedOutFor_35 : decode b_Pipe_valuesWorkedOutFor 35 = .ok (.iaload, 1) := by decide +kernel
theorem d_Pipe_valuesWorkedOutFor_36 : decode b_Pipe_valuesWorkedOutFor 36 = .ok (.istore 6, 2) := by decide +kernel
theorem d_Pipe_valuesWorkedOutFor_38 : decode b_Pipe_valuesWorkedOutFor 38 = .ok (.iload 4, 2) := by decide +kernel
theorem d_Pipe_valuesWorkedOutFor_40 : decode b_Pipe_valuesWorkedOutFor 40 = .ok (.iload 6, 2) := by decide +kernel
theorem d_Pipe_valuesWorkedOutFor_42 : decode b_Pipe_valuesWorkedOutFor 42 = .ok (.iconst (-1), 1) := by decide +kernel
theorem d_Pipe_valuesWorkedOutFor_43 : decode b_Pipe_valuesWorkedOutFor 43 = .ok (.if_icmp .ne 7, 3) := by decide +kernel
theorem d_Pipe_valuesWorkedOutFor_46 : decode b_Pipe_valuesWorkedOutFor 46 = .ok (.iconst 0, 1) := by decide +kernel
theorem d_Pipe_valuesWorkedOutFor_47 : decode b_Pipe_valuesWorkedOutFor 47 = .ok (.goto 10, 3) := by decide +kernel
theorem d_Pipe_valuesWorkedOutFor_50 : decode b_Pipe_valuesWorkedOutFor 50 = .ok (.aload_n 0, 1) := by decide +kernel
theorem d_Pipe_valuesWorkedOutFor_51 : decode b_Pipe_valuesWorkedOutFor 51 = .ok (.getfield 17, 3) := by decide +kernel
theorem d_Pipe_valuesWorkedOutFor_54 : decode b_Pipe_valuesWorkedOutFor 54 = .ok (.iload 6, 2) := by decide +kernel
theorem d_Pipe_valuesWorkedOutFor_56 : decode b_Pipe_valuesWorkedOutFor 56 = .ok (.iaload, 1) := by decide +kernel
theorem d_Pipe_valuesWorkedOutFor_57 : decode b_Pipe_valuesWorkedOutFor 57 = .ok (.iadd, 1) := by decide +kernel
theorem d_Pipe_valuesWorkedOutFor_58 : decode b_Pipe_valuesWorkedOutFor 58 = .ok (.istore 4, 2) := by decide +kernel
theorem d_Pipe_valuesWorkedOutFor_60 : decode b_Pipe_valuesWorkedOutFor 60 = .ok (.iinc 5 1, 3) := by decide +kernel
theorem d_Pipe_valuesWorkedOutFor_63 : decode b_Pipe_valuesWorkedOutFor 63 = .ok (.goto (-43), 3) := by decide +kernel
theorem d_Pipe_valuesWorkedOutFor_66 : decode b_Pipe_valuesWorkedOutFor 66 = .ok (.aload_n 0, 1) := by decide +kernel
theorem d_Pipe_valuesWorkedOutFor_67 : decode b_Pipe_valuesWorkedOutFor 67 = .ok (.getfield 17, 3) := by decide +kernel
theorem d_Pipe_valuesWorkedOutFor_70 : decode b_Pipe_valuesWorkedOutFor 70 = .ok (.iload_n 2, 1) := by decide +kernel
theorem d_Pipe_valuesWorkedOutFor_71 : decode b_Pipe_valuesWorkedOutFor 71 = .ok (.iload 4, 2) := by decide +kernel
theorem d_Pipe_valuesWorkedOutFor_73 : decode b_Pipe_valuesWorkedOutFor 73 = .ok (.iastore, 1) := by decide +kernel
theorem d_Pipe_valuesWorkedOutFor_74 : decode b_Pipe_valuesWorkedOutFor 74 = .ok (.iinc 2 1, 3) := by decide +kernel
theorem d_Pipe_valuesWorkedOutFor_77 : decode b_Pipe_valuesWorkedOutFor 77 = .ok (.goto (-75), 3) := by decide +kernel
theorem d_Pipe_valuesWorkedOutFor_80 : decode b_Pipe_valuesWorkedOutFor 80 = .ok (.aload_n 0, 1) := by decide +kernel
theorem d_Pipe_valuesWorkedOutFor_81 : decode b_Pipe_valuesWorkedOutFor 81 = .ok (.getfield 17, 3) := by decide +kernel
theorem d_Pipe_valuesWorkedOutFor_84 : decode b_Pipe_valuesWorkedOutFor 84 = .ok (.iload_n 1, 1) := by decide +kernel
theorem d_Pipe_valuesWorkedOutFor_85 : decode b_Pipe_valuesWorkedOutFor 85 = .ok (.iaload, 1) := by decide +kernel
theorem d_Pipe_valuesWorkedOutFor_86 : decode b_Pipe_valuesWorkedOutFor 86 = .ok (.ireturn, 1) := by decide +kernel
theorem d_Plan_init_0 : decode b_Plan_init 0 = .ok (.aload_n 0, 1) := by decide +kernel
theorem d_Plan_init_1 : decode b_Plan_init 1 = .ok (.invokespecial 3, 3) := by decide +kernel
theorem d_Plan_init_4 : decode b_Plan_init 4 = .ok (.aload_n 0, 1) := by decide +kernel
theorem d_Plan_init_5 : decode b_Plan_init 5 = .ok (.new 9, 3) := by decide +kernel
theorem d_Plan_init_8 : decode b_Plan_init 8 = .ok (.dup, 1) := by decide +kernel
theorem d_Plan_init_9 : decode b_Plan_init 9 = .ok (.invokespecial 11, 3) := by decide +kernel
theorem d_Plan_init_12 : decode b_Plan_init 12 = .ok (.putfield 12, 3) := by decide +kernel
theorem d_Plan_init_15 : decode b_Plan_init 15 = .ok (.aload_n 0, 1) := by decide +kernel
theorem d_Plan_init_16 : decode b_Plan_init 16 = .ok (.new 9, 3) := by decide +kernel
theorem d_Plan_init_19 : decode b_Plan_init 19 = .ok (.dup, 1) := by decide +kernel
theorem d_Plan_init_20 : decode b_Plan_init 20 = .ok (.invokespecial 11, 3) := by decide +kernel
theorem d_Plan_init_23 : decode b_Plan_init 23 = .ok (.putfield 18, 3) := by decide +kernel
theorem d_Plan_init_26 : decode b_Plan_init 26 = .ok (.aload_n 0, 1) := by decide +kernel
theorem d_Plan_init_27 : decode b_Plan_init 27 = .ok (.bipush 8, 2) := by decide +kernel
theorem d_Plan_init_29 : decode b_Plan_init 29 = .ok (.newarray .boolean, 2) := by decide +kernel
theorem d_Plan_init_31 : decode b_Plan_init 31 = .ok (.putfield 21, 3) := by decide +kernel
theorem d_Plan_init_34 : decode b_Plan_init 34 = .ok (.aload_n 0, 1) := by decide +kernel
theorem d_Plan_init_35 : decode b_Plan_init 35 = .ok (.bipush 8, 2) := by decide +kernel
theorem d_Plan_init_37 : decode b_Plan_init 37 = .ok (.newarray .int, 2) := by decide +kernel
theorem d_Plan_init_39 : decode b_Plan_init 39 = .ok (.putfield 25, 3) := by decide +kernel
theorem d_Plan_init_42 : decode b_Plan_init 42 = .ok (.aload_n 0, 1) := by decide +kernel
theorem d_Plan_init_43 : decode b_Plan_init 43 = .ok (.aload_n 1, 1) := by decide +kernel
theorem d_Plan_init_44 : decode b_Plan_init 44 = .ok (.putfield 29, 3) := by decide +kernel
theorem d_Plan_init_47 : decode b_Plan_init 47 = .ok (.return_, 1) := by decide +kernel
theorem d_Plan_draw_0 : decode b_Plan_draw 0 = .ok (.aload_n 0, 1) := by decide +kernel
theorem d_Plan_draw_1 : decode b_Plan_draw 1 = .ok (.getfield 29, 3) := by decide +kernel
theorem d_Plan_draw_4 : decode b_Plan_draw 4 = .ok (.getfield 33, 3) := by decide +kernel
theorem d_Plan_draw_7 : decode b_Plan_draw 7 = .ok (.iconst (-1), 1) := by decide +kernel
theorem d_Plan_draw_8 : decode b_Plan_draw 8 = .ok (.if_icmp .ne 6, 3) := by decide +kernel
theorem d_Plan_draw_11 : decode b_Plan_draw 11 = .ok (.bipush (-100), 2) := by decide +kernel
theorem d_Plan_draw_13 : decode b_Plan_draw 13 = .ok (.ireturn, 1) := by decide +kernel
theorem d_Plan_draw_14 : decode b_Plan_draw 14 = .ok (.aload_n 0, 1) := by decide +kernel
theorem d_Plan_draw_15 : decode b_Plan_draw 15 = .ok (.getfield 12, 3) := by decide +kernel
theorem d_Plan_draw_18 : decode b_Plan_draw 18 = .ok (.aload_n 0, 1) := by decide +kernel
theorem d_Plan_draw_19 : decode b_Plan_draw 19 = .ok (.getfield 29, 3) := by decide +kernel
theorem d_Plan_draw_22 : decode b_Plan_draw 22 = .ok (.iconst 0, 1) := by decide +kernel
theorem d_Plan_draw_23 : decode b_Plan_draw 23 = .ok (.aload_n 0, 1) := by decide +kernel
theorem d_Plan_draw_24 : decode b_Plan_draw 24 = .ok (.getfield 29, 3) := by decide +kernel
theorem d_Plan_draw_27 : decode b_Plan_draw 27 = .ok (.getfield 39, 3) := by decide +kernel
theorem d_Plan_draw_30 : decode b_Plan_draw 30 = .ok (.iconst 1, 1) := by decide +kernel
theorem d_Plan_draw_31 : decode b_Plan_draw 31 = .ok (.isub, 1) := by decide +kernel
theorem d_Plan_draw_32 : decode b_Plan_draw 32 = .ok (.invokevirtual 42, 3) := by decide +kernel
theorem d_Plan_draw_35 : decode b_Plan_draw 35 = .ok (.aload_n 0, 1) := by decide +kernel
theorem d_Plan_draw_36 : decode b_Plan_draw 36 = .ok (.invokevirtual 46, 3) := by decide +kernel
theorem d_Plan_draw_39 : decode b_Plan_draw 39 = .ok (.istore_n 1, 1) := by decide +kernel
theorem d_Plan_draw_40 : decode b_Plan_draw 40 = .ok (.iload_n 1, 1) := by decide +kernel
theorem d_Plan_draw_41 : decode b_Plan_draw 41 = .ok (.ifCond .lt 9, 3) := by decide +kernel
theorem d_Plan_draw_44 : decode b_Plan_draw 44 = .ok (.sipush (-200), 3) := by decide +kernel
theorem d_Plan_draw_47 : decode b_Plan_draw 47 = .ok (.iload_n 1, 1) := by decide +kernel
theorem d_Plan_draw_48 : decode b_Plan_draw 48 = .ok (.isub, 1) := by decide +kernel
theorem d_Plan_draw_49 : decode b_Plan_draw 49 = .ok (.ireturn, 1) := by decide +kernel
theorem d_Plan_draw_50 : decode b_Plan_draw 50 = .ok (.aload_n 0, 1) := by decide +kernel
theorem d_Plan_draw_51 : decode b_Plan_draw 51 = .ok (.getfield 25, 3) := by decide +kernel
theorem d_Plan_draw_54 : decode b_Plan_draw 54 = .ok (.iconst 0, 1) := by decide +kernel
theorem d_Plan_draw_55 : decode b_Plan_draw 55 = .ok (.invokestatic 50, 3) := by decide +kernel
theorem d_Plan_draw_58 : decode b_Plan_draw 58 = .ok (.aload_n 0, 1) := by decide +kernel
theorem d_Plan_draw_59 : decode b_Plan_draw 59 = .ok (.iconst 0, 1) := by decide +kernel
theorem d_Plan_draw_60 : decode b_Plan_draw 60 = .ok (.putfield 56, 3) := by decide +kernel
theorem d_Plan_draw_63 : decode b_Plan_draw 63 = .ok (.aload_n 0, 1) := by decide +kernel
theorem d_Plan_draw_64 : decode b_Plan_draw 64 = .ok (.iconst 0, 1) := by decide +kernel
theorem d_Plan_draw_65 : decode b_Plan_draw 65 = .ok (.putfield 59, 3) := by decide +kernel
theorem d_Plan_draw_68 : decode b_Plan_draw 68 = .ok (.aload_n 0, 1) := by decide +kernel
theorem d_Plan_draw_69 : decode b_Plan_draw 69 = .ok (.invokevirtual 62, 3) := by decide +kernel
theorem d_Plan_draw_72 : decode b_Plan_draw 72 = .ok (.aload_n 0, 1) := by decide +kernel
theorem d_Plan_draw_73 : decode b_Plan_draw 73 = .ok (.invokevirtual 65, 3) := by decide +kernel
theorem d_Plan_draw_76 : decode b_Plan_draw 76 = .ok (.aload_n 0, 1) := by decide +kernel
theorem d_Plan_draw_77 : decode b_Plan_draw 77 = .ok (.invokevirtual 68, 3) := by decide +kernel
theorem d_Plan_draw_80 : decode b_Plan_draw 80 = .ok (.aload_n 0, 1) := by decide +kernel
theorem d_Plan_draw_81 : decode b_Plan_draw 81 = .ok (.invokevirtual 71, 3) := by decide +kernel
theorem d_Plan_draw_84 : decode b_Plan_draw 84 = .ok (.aload_n 0, 1) := by decide +kernel
theorem d_Plan_draw_85 : decode b_Plan_draw 85 = .ok (.getfield 74, 3) := by decide +kernel
theorem d_Plan_draw_88 : decode b_Plan_draw 88 = .ok (.sipush 4000, 3) := by decide +kernel
theorem d_Plan_draw_91 : decode b_Plan_draw 91 = .ok (.if_icmp .le 9, 3) := by decide +kernel
theorem d_Plan_draw_94 : decode b_Plan_draw 94 = .ok (.sipush (-300), 3) := by decide +kernel
theorem d_Plan_draw_97 : decode b_Plan_draw 97 = .ok (.goto 4, 3) := by decide +kernel
theorem d_Plan_draw_100 : decode b_Plan_draw 100 = .ok (.iconst 0, 1) := by decide +kernel
theorem d_Plan_draw_101 : decode b_Plan_draw 101 = .ok (.ireturn, 1) := by decide +kernel
theorem d_Plan_leastRootThatAsksTiled_0 : decode b_Plan_leastRootThatAsksTiled 0 = .ok (.iconst 0, 1) := by decide +kernel
theorem d_Plan_leastRootThatAsksTiled_1 : decode b_Plan_leastRootThatAsksTiled 1 = .ok (.istore_n 1, 1) := by decide +kernel
theorem d_Plan_leastRootThatAsksTiled_2 : decode b_Plan_leastRootThatAsksTiled 2 = .ok (.iload_n 1, 1) := by decide +kernel
theorem d_Plan_leastRootThatAsksTiled_3 : decode b_Plan_leastRootThatAsksTiled 3 = .ok (.aload_n 0, 1) := by decide +kernel
theorem d_Plan_leastRootThatAsksTiled_4 : decode b_Plan_leastRootThatAsksTiled 4 = .ok (.getfield 29, 3) := by decide +kernel
theorem d_Plan_leastRootThatAsksTiled_7 : decode b_Plan_leastRootThatAsksTiled 7 = .ok (.getfield 33, 3) := by decide +kernel
theorem d_Plan_leastRootThatAsksTiled_10 : decode b_Plan_leastRootThatAsksTiled 10 = .ok (.if_icmp .ge 48, 3) := by decide +kernel
theorem d_Plan_leastRootThatAsksTiled_13 : decode b_Plan_leastRootThatAsksTiled 13 = .ok (.aload_n 0, 1) := by decide +kernel
theorem d_Plan_leastRootThatAsksTiled_14 : decode b_Plan_leastRootThatAsksTiled 14 = .ok (.getfield 21, 3) := by decide +kernel
theorem d_Plan_leastRootThatAsksTiled_17 : decode b_Plan_leastRootThatAsksTiled 17 = .ok (.iload_n 1, 1) := by decide +kernel
theorem d_Plan_leastRootThatAsksTiled_18 : decode b_Plan_leastRootThatAsksTiled 18 = .ok (.aload_n 0, 1) := by decide +kernel
theorem d_Plan_leastRootThatAsksTiled_19 : decode b_Plan_leastRootThatAsksTiled 19 = .ok (.aload_n 0, 1) := by decide +kernel
theorem d_Plan_leastRootThatAsksTiled_20 : decode b_Plan_leastRootThatAsksTiled 20 = .ok (.getfield 29, 3) := by decide +kernel
theorem d_Plan_leastRootThatAsksTiled_23 : decode b_Plan_leastRootThatAsksTiled 23 = .ok (.getfield 77, 3) := by decide +kernel
theorem d_Plan_leastRootThatAsksTiled_26 : decode b_Plan_leastRootThatAsksTiled 26 = .ok (.iload_n 1, 1) := by decide +kernel
theorem d_Plan_leastRootThatAsksTiled_27 : decode b_Plan_leastRootThatAsksTiled 27 = .ok (.aaload, 1) := by decide +kernel
theorem d_Plan_leastRootThatAsksTiled_28 : decode b_Plan_leastRootThatAsksTiled 28 = .ok (.invokevirtual 81, 3) := by decide +kernel
theorem d_Plan_leastRootThatAsksTiled_31 : decode b_Plan_leastRootThatAsksTiled 31 = .ok (.bastore, 1) := by decide +kernel
theorem d_Plan_leastRootThatAsksTiled_32 : decode b_Plan_leastRootThatAsksTiled 32 = .ok (.aload_n 0, 1) := by decide +kernel
theorem d_Plan_leastRootThatAsksTiled_33 : decode b_Plan_leastRootThatAsksTiled 33 = .ok (.iload_n 1, 1) := by decide +kernel
theorem d_Plan_leastRootThatAsksTiled_34 : decode b_Plan_leastRootThatAsksTiled 34 = .ok (.iconst 1, 1) := by decide +kernel
theorem d_Plan_leastRootThatAsksTiled_35 : decode b_Plan_leastRootThatAsksTiled 35 = .ok (.invokevirtual 85, 3) := by decide +kernel
theorem d_Plan_leastRootThatAsksTiled_38 : decode b_Plan_leastRootThatAsksTiled 38 = .ok (.ifCond .eq 14, 3) := by decide +kernel
theorem d_Plan_leastRootThatAsksTiled_41 : decode b_Plan_leastRootThatAsksTiled 41 = .ok (.aload_n 0, 1) := by decide +kernel
theorem d_Plan_leastRootThatAsksTiled_42 : decode b_Plan_leastRootThatAsksTiled 42 = .ok (.getfield 21, 3) := by decide +kernel
theorem d_Plan_leastRootThatAsksTiled_45 : decode b_Plan_leastRootThatAsksTiled 45 = .ok (.iload_n 1, 1) := by decide +kernel
theorem d_Plan_leastRootThatAsksTiled_46 : decode b_Plan_leastRootThatAsksTiled 46 = .ok (.baload, 1) := by decide +kernel
theorem d_Plan_leastRootThatAsksTiled_47 : decode b_Plan_leastRootThatAsksTiled 47 = .ok (.ifCond .eq 5, 3) := by decide +kernel
theorem d_Plan_leastRootThatAsksTiled_50 : decode b_Plan_leastRootThatAsksTiled 50 = .ok (.iload_n 1, 1) := by decide +kernel
theorem d_Plan_leastRootThatAsksTiled_51 : decode b_Plan_leastRootThatAsksTiled 51 = .ok (.ireturn, 1) := by decide +kernel
theorem d_Plan_leastRootThatAsksTiled_52 : decode b_Plan_leastRootThatAsksTiled 52 = .ok (.iinc 1 1, 3) := by decide +kernel
theorem d_Plan_leastRootThatAsksTiled_55 : decode b_Plan_leastRootThatAsksTiled 55 = .ok (.goto (-53), 3) := by decide +kernel
theorem d_Plan_leastRootThatAsksTiled_58 : decode b_Plan_leastRootThatAsksTiled 58 = .ok (.iconst (-1), 1) := by decide +kernel
theorem d_Plan_leastRootThatAsksTiled_59 : decode b_Plan_leastRootThatAsksTiled 59 = .ok (.ireturn, 1) := by decide +kernel
theorem d_Plan_hasTiledToWorkOut_0 : decode b_Plan_hasTiledToWorkOut 0 = .ok (.iconst 0, 1) := by decide +kernel
theorem d_Plan_hasTiledToWorkOut_1 : decode b_Plan_hasTiledToWorkOut 1 = .ok (.istore_n 2, 1) := by decide +kernel
theorem d_Plan_hasTiledToWorkOut_2 : decode b_Plan_hasTiledToWorkOut 2 = .ok (.iload_n 2, 1) := by decide +kernel
theorem d_Plan_hasTiledToWorkOut_3 : decode b_Plan_hasTiledToWorkOut 3 = .ok (.aload_n 1, 1) := by decide +kernel
theorem d_Plan_hasTiledToWorkOut_4 : decode b_Plan_hasTiledToWorkOut 4 = .ok (.getfield 89, 3) := by decide +kernel
theorem d_Plan_hasTiledToWorkOut_7 : decode b_Plan_hasTiledToWorkOut 7 = .ok (.if_icmp .ge 60, 3) := by decide +kernel
theorem d_Plan_hasTiledToWorkOut_10 : decode b_Plan_hasTiledToWorkOut 10 = .ok (.aload_n 1, 1) := by decide +kernel
theorem d_Plan_hasTiledToWorkOut_11 : decode b_Plan_hasTiledToWorkOut 11 = .ok (.getfield 94, 3) := by decide +kernel
theorem d_Plan_hasTiledToWorkOut_14 : decode b_Plan_hasTiledToWorkOut 14 = .ok (.iload_n 2, 1) := by decide +kernel
theorem d_Plan_hasTiledToWorkOut_15 : decode b_Plan_hasTiledToWorkOut 15 = .ok (.iaload, 1) := by decide +kernel
theorem d_Plan_hasTiledToWorkOut_16 : decode b_Plan_hasTiledToWorkOut 16 = .ok (.istore_n 3, 1) := by decide +kernel
theorem d_Plan_hasTiledToWorkOut_17 : decode b_Plan_hasTiledToWorkOut 17 = .ok (.iload_n 3, 1) := by decide +kernel
theorem d_Plan_hasTiledToWorkOut_18 : decode b_Plan_hasTiledToWorkOut 18 = .ok (.iconst (-1), 1) := by decide +kernel
theorem d_Plan_hasTiledToWorkOut_19 : decode b_Plan_hasTiledToWorkOut 19 = .ok (.if_icmp .ne 6, 3) := by decide +kernel
theorem d_Plan_hasTiledToWorkOut_22 : decode b_Plan_hasTiledToWorkOut 22 = .ok (.goto 39, 3) := by decide +kernel
theorem d_Plan_hasTiledToWorkOut_25 : decode b_Plan_hasTiledToWorkOut 25 = .ok (.aload_n 0, 1) := by decide +kernel
theorem d_Plan_hasTiledToWorkOut_26 : decode b_Plan_hasTiledToWorkOut 26 = .ok (.getfield 29, 3) := by decide +kernel
theorem d_Plan_hasTiledToWorkOut_29 : decode b_Plan_hasTiledToWorkOut 29 = .ok (.getfield 77, 3) := by decide +kernel
theorem d_Plan_hasTiledToWorkOut_32 : decode b_Plan_hasTiledToWorkOut 32 = .ok (.iload_n 3, 1) := by decide +kernel
theorem d_Plan_hasTiledToWorkOut_33 : decode b_Plan_hasTiledToWorkOut 33 = .ok (.aaload, 1) := by decide +kernel
