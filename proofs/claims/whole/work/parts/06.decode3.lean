theorem d_Runner_release_35 : decode b_Runner_release 35 = .ok (.aaload, 1) := by decide +kernel
theorem d_Runner_release_36 : decode b_Runner_release 36 = .ok (.getfield 79, 3) := by decide +kernel
theorem d_Runner_release_39 : decode b_Runner_release 39 = .ok (.iload_n 1, 1) := by decide +kernel
theorem d_Runner_release_40 : decode b_Runner_release 40 = .ok (.if_icmp .eq 7, 3) := by decide +kernel
theorem d_Runner_release_43 : decode b_Runner_release 43 = .ok (.iconst 1, 1) := by decide +kernel
theorem d_Runner_release_44 : decode b_Runner_release 44 = .ok (.goto 4, 3) := by decide +kernel
theorem d_Runner_release_47 : decode b_Runner_release 47 = .ok (.iconst 0, 1) := by decide +kernel
theorem d_Runner_release_48 : decode b_Runner_release 48 = .ok (.bastore, 1) := by decide +kernel
theorem d_Runner_release_49 : decode b_Runner_release 49 = .ok (.iinc 2 1, 3) := by decide +kernel
theorem d_Runner_release_52 : decode b_Runner_release 52 = .ok (.goto (-50), 3) := by decide +kernel
theorem d_Runner_release_55 : decode b_Runner_release 55 = .ok (.return_, 1) := by decide +kernel
theorem d_Runner_workOut_0 : decode b_Runner_workOut 0 = .ok (.aload_n 0, 1) := by decide +kernel
theorem d_Runner_workOut_1 : decode b_Runner_workOut 1 = .ok (.getfield 31, 3) := by decide +kernel
theorem d_Runner_workOut_4 : decode b_Runner_workOut 4 = .ok (.getfield 75, 3) := by decide +kernel
theorem d_Runner_workOut_7 : decode b_Runner_workOut 7 = .ok (.iload_n 1, 1) := by decide +kernel
theorem d_Runner_workOut_8 : decode b_Runner_workOut 8 = .ok (.aaload, 1) := by decide +kernel
theorem d_Runner_workOut_9 : decode b_Runner_workOut 9 = .ok (.astore_n 3, 1) := by decide +kernel
theorem d_Runner_workOut_10 : decode b_Runner_workOut 10 = .ok (.aload_n 3, 1) := by decide +kernel
theorem d_Runner_workOut_11 : decode b_Runner_workOut 11 = .ok (.getfield 90, 3) := by decide +kernel
theorem d_Runner_workOut_14 : decode b_Runner_workOut 14 = .ok (.istore 4, 2) := by decide +kernel
theorem d_Runner_workOut_16 : decode b_Runner_workOut 16 = .ok (.iconst 0, 1) := by decide +kernel
theorem d_Runner_workOut_17 : decode b_Runner_workOut 17 = .ok (.istore 5, 2) := by decide +kernel
theorem d_Runner_workOut_19 : decode b_Runner_workOut 19 = .ok (.iload 5, 2) := by decide +kernel
theorem d_Runner_workOut_21 : decode b_Runner_workOut 21 = .ok (.aload_n 3, 1) := by decide +kernel
theorem d_Runner_workOut_22 : decode b_Runner_workOut 22 = .ok (.getfield 93, 3) := by decide +kernel
theorem d_Runner_workOut_25 : decode b_Runner_workOut 25 = .ok (.if_icmp .ge 42, 3) := by decide +kernel
theorem d_Runner_workOut_28 : decode b_Runner_workOut 28 = .ok (.iload 4, 2) := by decide +kernel
theorem d_Runner_workOut_30 : decode b_Runner_workOut 30 = .ok (.aload_n 3, 1) := by decide +kernel
theorem d_Runner_workOut_31 : decode b_Runner_workOut 31 = .ok (.getfield 96, 3) := by decide +kernel
theorem d_Runner_workOut_34 : decode b_Runner_workOut 34 = .ok (.iload 5, 2) := by decide +kernel
theorem d_Runner_workOut_36 : decode b_Runner_workOut 36 = .ok (.iaload, 1) := by decide +kernel
theorem d_Runner_workOut_37 : decode b_Runner_workOut 37 = .ok (.aload_n 0, 1) := by decide +kernel
theorem d_Runner_workOut_38 : decode b_Runner_workOut 38 = .ok (.aload_n 3, 1) := by decide +kernel
theorem d_Runner_workOut_39 : decode b_Runner_workOut 39 = .ok (.getfield 99, 3) := by decide +kernel
theorem d_Runner_workOut_42 : decode b_Runner_workOut 42 = .ok (.iload 5, 2) := by decide +kernel
theorem d_Runner_workOut_44 : decode b_Runner_workOut 44 = .ok (.iaload, 1) := by decide +kernel
theorem d_Runner_workOut_45 : decode b_Runner_workOut 45 = .ok (.iload_n 2, 1) := by decide +kernel
theorem d_Runner_workOut_46 : decode b_Runner_workOut 46 = .ok (.aload_n 3, 1) := by decide +kernel
theorem d_Runner_workOut_47 : decode b_Runner_workOut 47 = .ok (.getfield 102, 3) := by decide +kernel
theorem d_Runner_workOut_50 : decode b_Runner_workOut 50 = .ok (.iload 5, 2) := by decide +kernel
theorem d_Runner_workOut_52 : decode b_Runner_workOut 52 = .ok (.iaload, 1) := by decide +kernel
theorem d_Runner_workOut_53 : decode b_Runner_workOut 53 = .ok (.iadd, 1) := by decide +kernel
theorem d_Runner_workOut_54 : decode b_Runner_workOut 54 = .ok (.invokevirtual 105, 3) := by decide +kernel
theorem d_Runner_workOut_57 : decode b_Runner_workOut 57 = .ok (.imul, 1) := by decide +kernel
theorem d_Runner_workOut_58 : decode b_Runner_workOut 58 = .ok (.iadd, 1) := by decide +kernel
theorem d_Runner_workOut_59 : decode b_Runner_workOut 59 = .ok (.istore 4, 2) := by decide +kernel
theorem d_Runner_workOut_61 : decode b_Runner_workOut 61 = .ok (.iinc 5 1, 3) := by decide +kernel
theorem d_Runner_workOut_64 : decode b_Runner_workOut 64 = .ok (.goto (-45), 3) := by decide +kernel
theorem d_Runner_workOut_67 : decode b_Runner_workOut 67 = .ok (.aload_n 3, 1) := by decide +kernel
theorem d_Runner_workOut_68 : decode b_Runner_workOut 68 = .ok (.iload 4, 2) := by decide +kernel
theorem d_Runner_workOut_70 : decode b_Runner_workOut 70 = .ok (.invokevirtual 108, 3) := by decide +kernel
theorem d_Runner_workOut_73 : decode b_Runner_workOut 73 = .ok (.ireturn, 1) := by decide +kernel
theorem d_Runner_sourceValue_0 : decode b_Runner_sourceValue 0 = .ok (.iload_n 1, 1) := by decide +kernel
theorem d_Runner_sourceValue_1 : decode b_Runner_sourceValue 1 = .ok (.iconst (-1), 1) := by decide +kernel
theorem d_Runner_sourceValue_2 : decode b_Runner_sourceValue 2 = .ok (.if_icmp .ne 30, 3) := by decide +kernel
theorem d_Runner_sourceValue_5 : decode b_Runner_sourceValue 5 = .ok (.aload_n 0, 1) := by decide +kernel
theorem d_Runner_sourceValue_6 : decode b_Runner_sourceValue 6 = .ok (.getfield 31, 3) := by decide +kernel
theorem d_Runner_sourceValue_9 : decode b_Runner_sourceValue 9 = .ok (.getfield 111, 3) := by decide +kernel
theorem d_Runner_sourceValue_12 : decode b_Runner_sourceValue 12 = .ok (.iconst 0, 1) := by decide +kernel
theorem d_Runner_sourceValue_13 : decode b_Runner_sourceValue 13 = .ok (.aload_n 0, 1) := by decide +kernel
theorem d_Runner_sourceValue_14 : decode b_Runner_sourceValue 14 = .ok (.getfield 31, 3) := by decide +kernel
theorem d_Runner_sourceValue_17 : decode b_Runner_sourceValue 17 = .ok (.getfield 111, 3) := by decide +kernel
theorem d_Runner_sourceValue_20 : decode b_Runner_sourceValue 20 = .ok (.arraylength, 1) := by decide +kernel
theorem d_Runner_sourceValue_21 : decode b_Runner_sourceValue 21 = .ok (.iconst 1, 1) := by decide +kernel
theorem d_Runner_sourceValue_22 : decode b_Runner_sourceValue 22 = .ok (.isub, 1) := by decide +kernel
theorem d_Runner_sourceValue_23 : decode b_Runner_sourceValue 23 = .ok (.iload_n 2, 1) := by decide +kernel
theorem d_Runner_sourceValue_24 : decode b_Runner_sourceValue 24 = .ok (.invokestatic 114, 3) := by decide +kernel
theorem d_Runner_sourceValue_27 : decode b_Runner_sourceValue 27 = .ok (.invokestatic 119, 3) := by decide +kernel
theorem d_Runner_sourceValue_30 : decode b_Runner_sourceValue 30 = .ok (.iaload, 1) := by decide +kernel
theorem d_Runner_sourceValue_31 : decode b_Runner_sourceValue 31 = .ok (.ireturn, 1) := by decide +kernel
theorem d_Runner_sourceValue_32 : decode b_Runner_sourceValue 32 = .ok (.aload_n 0, 1) := by decide +kernel
theorem d_Runner_sourceValue_33 : decode b_Runner_sourceValue 33 = .ok (.getfield 18, 3) := by decide +kernel
theorem d_Runner_sourceValue_36 : decode b_Runner_sourceValue 36 = .ok (.iload_n 1, 1) := by decide +kernel
theorem d_Runner_sourceValue_37 : decode b_Runner_sourceValue 37 = .ok (.baload, 1) := by decide +kernel
theorem d_Runner_sourceValue_38 : decode b_Runner_sourceValue 38 = .ok (.ifCond .eq 17, 3) := by decide +kernel
theorem d_Runner_sourceValue_41 : decode b_Runner_sourceValue 41 = .ok (.aload_n 0, 1) := by decide +kernel
theorem d_Runner_sourceValue_42 : decode b_Runner_sourceValue 42 = .ok (.getfield 24, 3) := by decide +kernel
theorem d_Runner_sourceValue_45 : decode b_Runner_sourceValue 45 = .ok (.iload_n 1, 1) := by decide +kernel
theorem d_Runner_sourceValue_46 : decode b_Runner_sourceValue 46 = .ok (.aaload, 1) := by decide +kernel
theorem d_Runner_sourceValue_47 : decode b_Runner_sourceValue 47 = .ok (.iload_n 2, 1) := by decide +kernel
theorem d_Runner_sourceValue_48 : decode b_Runner_sourceValue 48 = .ok (.bipush 28, 2) := by decide +kernel
theorem d_Runner_sourceValue_50 : decode b_Runner_sourceValue 50 = .ok (.iadd, 1) := by decide +kernel
theorem d_Runner_sourceValue_51 : decode b_Runner_sourceValue 51 = .ok (.iaload, 1) := by decide +kernel
theorem d_Runner_sourceValue_52 : decode b_Runner_sourceValue 52 = .ok (.goto 9, 3) := by decide +kernel
theorem d_Runner_sourceValue_55 : decode b_Runner_sourceValue 55 = .ok (.aload_n 0, 1) := by decide +kernel
theorem d_Runner_sourceValue_56 : decode b_Runner_sourceValue 56 = .ok (.iload_n 1, 1) := by decide +kernel
theorem d_Runner_sourceValue_57 : decode b_Runner_sourceValue 57 = .ok (.iload_n 2, 1) := by decide +kernel
theorem d_Runner_sourceValue_58 : decode b_Runner_sourceValue 58 = .ok (.invokevirtual 68, 3) := by decide +kernel
theorem d_Runner_sourceValue_61 : decode b_Runner_sourceValue 61 = .ok (.ireturn, 1) := by decide +kernel
theorem d_Stage_init_0 : decode b_Stage_init 0 = .ok (.aload_n 0, 1) := by decide +kernel
theorem d_Stage_init_1 : decode b_Stage_init 1 = .ok (.invokespecial 3, 3) := by decide +kernel
theorem d_Stage_init_4 : decode b_Stage_init 4 = .ok (.aload_n 0, 1) := by decide +kernel
theorem d_Stage_init_5 : decode b_Stage_init 5 = .ok (.iconst 4, 1) := by decide +kernel
theorem d_Stage_init_6 : decode b_Stage_init 6 = .ok (.newarray .int, 2) := by decide +kernel
theorem d_Stage_init_8 : decode b_Stage_init 8 = .ok (.putfield 9, 3) := by decide +kernel
theorem d_Stage_init_11 : decode b_Stage_init 11 = .ok (.aload_n 0, 1) := by decide +kernel
theorem d_Stage_init_12 : decode b_Stage_init 12 = .ok (.iconst 4, 1) := by decide +kernel
theorem d_Stage_init_13 : decode b_Stage_init 13 = .ok (.newarray .int, 2) := by decide +kernel
theorem d_Stage_init_15 : decode b_Stage_init 15 = .ok (.putfield 15, 3) := by decide +kernel
theorem d_Stage_init_18 : decode b_Stage_init 18 = .ok (.aload_n 0, 1) := by decide +kernel
theorem d_Stage_init_19 : decode b_Stage_init 19 = .ok (.iconst 4, 1) := by decide +kernel
theorem d_Stage_init_20 : decode b_Stage_init 20 = .ok (.newarray .int, 2) := by decide +kernel
theorem d_Stage_init_22 : decode b_Stage_init 22 = .ok (.putfield 18, 3) := by decide +kernel
theorem d_Stage_init_25 : decode b_Stage_init 25 = .ok (.return_, 1) := by decide +kernel
theorem d_Stage_addTap_0 : decode b_Stage_addTap 0 = .ok (.aload_n 0, 1) := by decide +kernel
theorem d_Stage_addTap_1 : decode b_Stage_addTap 1 = .ok (.getfield 9, 3) := by decide +kernel
theorem d_Stage_addTap_4 : decode b_Stage_addTap 4 = .ok (.aload_n 0, 1) := by decide +kernel
theorem d_Stage_addTap_5 : decode b_Stage_addTap 5 = .ok (.getfield 21, 3) := by decide +kernel
theorem d_Stage_addTap_8 : decode b_Stage_addTap 8 = .ok (.iload_n 1, 1) := by decide +kernel
theorem d_Stage_addTap_9 : decode b_Stage_addTap 9 = .ok (.iastore, 1) := by decide +kernel
theorem d_Stage_addTap_10 : decode b_Stage_addTap 10 = .ok (.aload_n 0, 1) := by decide +kernel
theorem d_Stage_addTap_11 : decode b_Stage_addTap 11 = .ok (.getfield 15, 3) := by decide +kernel
theorem d_Stage_addTap_14 : decode b_Stage_addTap 14 = .ok (.aload_n 0, 1) := by decide +kernel
theorem d_Stage_addTap_15 : decode b_Stage_addTap 15 = .ok (.getfield 21, 3) := by decide +kernel
theorem d_Stage_addTap_18 : decode b_Stage_addTap 18 = .ok (.iload_n 2, 1) := by decide +kernel
theorem d_Stage_addTap_19 : decode b_Stage_addTap 19 = .ok (.iastore, 1) := by decide +kernel
theorem d_Stage_addTap_20 : decode b_Stage_addTap 20 = .ok (.aload_n 0, 1) := by decide +kernel
theorem d_Stage_addTap_21 : decode b_Stage_addTap 21 = .ok (.getfield 18, 3) := by decide +kernel
theorem d_Stage_addTap_24 : decode b_Stage_addTap 24 = .ok (.aload_n 0, 1) := by decide +kernel
theorem d_Stage_addTap_25 : decode b_Stage_addTap 25 = .ok (.getfield 21, 3) := by decide +kernel
theorem d_Stage_addTap_28 : decode b_Stage_addTap 28 = .ok (.iload_n 3, 1) := by decide +kernel
theorem d_Stage_addTap_29 : decode b_Stage_addTap 29 = .ok (.iastore, 1) := by decide +kernel
theorem d_Stage_addTap_30 : decode b_Stage_addTap 30 = .ok (.aload_n 0, 1) := by decide +kernel
theorem d_Stage_addTap_31 : decode b_Stage_addTap 31 = .ok (.dup, 1) := by decide +kernel
theorem d_Stage_addTap_32 : decode b_Stage_addTap 32 = .ok (.getfield 21, 3) := by decide +kernel
theorem d_Stage_addTap_35 : decode b_Stage_addTap 35 = .ok (.iconst 1, 1) := by decide +kernel
theorem d_Stage_addTap_36 : decode b_Stage_addTap 36 = .ok (.iadd, 1) := by decide +kernel
theorem d_Stage_addTap_37 : decode b_Stage_addTap 37 = .ok (.putfield 21, 3) := by decide +kernel
theorem d_Stage_addTap_40 : decode b_Stage_addTap 40 = .ok (.return_, 1) := by decide +kernel
theorem d_Stage_finished_0 : decode b_Stage_finished 0 = .ok (.aload_n 0, 1) := by decide +kernel
theorem d_Stage_finished_1 : decode b_Stage_finished 1 = .ok (.getfield 25, 3) := by decide +kernel
theorem d_Stage_finished_4 : decode b_Stage_finished 4 = .ok (.tableswitch 51 1 3 #[28, 34, 40], 28) := by decide +kernel
theorem d_Stage_finished_32 : decode b_Stage_finished 32 = .ok (.iload_n 1, 1) := by decide +kernel
theorem d_Stage_finished_33 : decode b_Stage_finished 33 = .ok (.iconst 0, 1) := by decide +kernel
theorem d_Stage_finished_34 : decode b_Stage_finished 34 = .ok (.invokestatic 28, 3) := by decide +kernel
theorem d_Stage_finished_37 : decode b_Stage_finished 37 = .ok (.ireturn, 1) := by decide +kernel
theorem d_Stage_finished_38 : decode b_Stage_finished 38 = .ok (.iload_n 1, 1) := by decide +kernel
theorem d_Stage_finished_39 : decode b_Stage_finished 39 = .ok (.iconst 2, 1) := by decide +kernel
theorem d_Stage_finished_40 : decode b_Stage_finished 40 = .ok (.invokestatic 34, 3) := by decide +kernel
theorem d_Stage_finished_43 : decode b_Stage_finished 43 = .ok (.ireturn, 1) := by decide +kernel
theorem d_Stage_finished_44 : decode b_Stage_finished 44 = .ok (.iload_n 1, 1) := by decide +kernel
theorem d_Stage_finished_45 : decode b_Stage_finished 45 = .ok (.ifCond .ge 8, 3) := by decide +kernel
theorem d_Stage_finished_48 : decode b_Stage_finished 48 = .ok (.iload_n 1, 1) := by decide +kernel
theorem d_Stage_finished_49 : decode b_Stage_finished 49 = .ok (.ineg, 1) := by decide +kernel
theorem d_Stage_finished_50 : decode b_Stage_finished 50 = .ok (.goto 4, 3) := by decide +kernel
theorem d_Stage_finished_53 : decode b_Stage_finished 53 = .ok (.iload_n 1, 1) := by decide +kernel
theorem d_Stage_finished_54 : decode b_Stage_finished 54 = .ok (.ireturn, 1) := by decide +kernel
theorem d_Stage_finished_55 : decode b_Stage_finished 55 = .ok (.iload_n 1, 1) := by decide +kernel
theorem d_Stage_finished_56 : decode b_Stage_finished 56 = .ok (.ireturn, 1) := by decide +kernel
theorem d_Math_floorDiv_0 : decode b_Math_floorDiv 0 = .ok (.iload_n 0, 1) := by decide +kernel
theorem d_Math_floorDiv_1 : decode b_Math_floorDiv 1 = .ok (.iload_n 1, 1) := by decide +kernel
theorem d_Math_floorDiv_2 : decode b_Math_floorDiv 2 = .ok (.idiv, 1) := by decide +kernel
theorem d_Math_floorDiv_3 : decode b_Math_floorDiv 3 = .ok (.istore_n 2, 1) := by decide +kernel
theorem d_Math_floorDiv_4 : decode b_Math_floorDiv 4 = .ok (.iload_n 0, 1) := by decide +kernel
theorem d_Math_floorDiv_5 : decode b_Math_floorDiv 5 = .ok (.iload_n 1, 1) := by decide +kernel
theorem d_Math_floorDiv_6 : decode b_Math_floorDiv 6 = .ok (.ixor, 1) := by decide +kernel
theorem d_Math_floorDiv_7 : decode b_Math_floorDiv 7 = .ok (.ifCond .ge 14, 3) := by decide +kernel
theorem d_Math_floorDiv_10 : decode b_Math_floorDiv 10 = .ok (.iload_n 2, 1) := by decide +kernel
theorem d_Math_floorDiv_11 : decode b_Math_floorDiv 11 = .ok (.iload_n 1, 1) := by decide +kernel
theorem d_Math_floorDiv_12 : decode b_Math_floorDiv 12 = .ok (.imul, 1) := by decide +kernel
theorem d_Math_floorDiv_13 : decode b_Math_floorDiv 13 = .ok (.iload_n 0, 1) := by decide +kernel
theorem d_Math_floorDiv_14 : decode b_Math_floorDiv 14 = .ok (.if_icmp .eq 7, 3) := by decide +kernel
theorem d_Math_floorDiv_17 : decode b_Math_floorDiv 17 = .ok (.iload_n 2, 1) := by decide +kernel
theorem d_Math_floorDiv_18 : decode b_Math_floorDiv 18 = .ok (.iconst 1, 1) := by decide +kernel
theorem d_Math_floorDiv_19 : decode b_Math_floorDiv 19 = .ok (.isub, 1) := by decide +kernel
theorem d_Math_floorDiv_20 : decode b_Math_floorDiv 20 = .ok (.ireturn, 1) := by decide +kernel
theorem d_Math_floorDiv_21 : decode b_Math_floorDiv 21 = .ok (.iload_n 2, 1) := by decide +kernel
theorem d_Math_floorDiv_22 : decode b_Math_floorDiv 22 = .ok (.ireturn, 1) := by decide +kernel
theorem d_Arrays_fill_0 : decode b_Arrays_fill 0 = .ok (.iconst 0, 1) := by decide +kernel
theorem d_Arrays_fill_1 : decode b_Arrays_fill 1 = .ok (.istore_n 2, 1) := by decide +kernel
theorem d_Arrays_fill_2 : decode b_Arrays_fill 2 = .ok (.aload_n 0, 1) := by decide +kernel
theorem d_Arrays_fill_3 : decode b_Arrays_fill 3 = .ok (.arraylength, 1) := by decide +kernel
theorem d_Arrays_fill_4 : decode b_Arrays_fill 4 = .ok (.istore_n 3, 1) := by decide +kernel
theorem d_Arrays_fill_5 : decode b_Arrays_fill 5 = .ok (.iload_n 2, 1) := by decide +kernel
theorem d_Arrays_fill_6 : decode b_Arrays_fill 6 = .ok (.iload_n 3, 1) := by decide +kernel
theorem d_Arrays_fill_7 : decode b_Arrays_fill 7 = .ok (.if_icmp .ge 13, 3) := by decide +kernel
theorem d_Arrays_fill_10 : decode b_Arrays_fill 10 = .ok (.aload_n 0, 1) := by decide +kernel
theorem d_Arrays_fill_11 : decode b_Arrays_fill 11 = .ok (.iload_n 2, 1) := by decide +kernel
theorem d_Arrays_fill_12 : decode b_Arrays_fill 12 = .ok (.iload_n 1, 1) := by decide +kernel
theorem d_Arrays_fill_13 : decode b_Arrays_fill 13 = .ok (.iastore, 1) := by decide +kernel
theorem d_Arrays_fill_14 : decode b_Arrays_fill 14 = .ok (.iinc 2 1, 3) := by decide +kernel
theorem d_Arrays_fill_17 : decode b_Arrays_fill 17 = .ok (.goto (-12), 3) := by decide +kernel
theorem d_Arrays_fill_20 : decode b_Arrays_fill 20 = .ok (.return_, 1) := by decide +kernel
