theorem d_SC_init_0 : decode b_SC_init 0 = .ok (.aload_n 0, 1) := by decide +kernel
theorem d_SC_init_1 : decode b_SC_init 1 = .ok (.invokespecial 3, 3) := by decide +kernel
theorem d_SC_init_4 : decode b_SC_init 4 = .ok (.aload_n 0, 1) := by decide +kernel
theorem d_SC_init_5 : decode b_SC_init 5 = .ok (.new 9, 3) := by decide +kernel
theorem d_SC_init_8 : decode b_SC_init 8 = .ok (.dup, 1) := by decide +kernel
theorem d_SC_init_9 : decode b_SC_init 9 = .ok (.iconst 1, 1) := by decide +kernel
theorem d_SC_init_10 : decode b_SC_init 10 = .ok (.bipush 24, 2) := by decide +kernel
theorem d_SC_init_12 : decode b_SC_init 12 = .ok (.iload_n 1, 1) := by decide +kernel
theorem d_SC_init_13 : decode b_SC_init 13 = .ok (.invokestatic 11, 3) := by decide +kernel
theorem d_SC_init_16 : decode b_SC_init 16 = .ok (.invokestatic 17, 3) := by decide +kernel
theorem d_SC_init_19 : decode b_SC_init 19 = .ok (.invokespecial 20, 3) := by decide +kernel
theorem d_SC_init_22 : decode b_SC_init 22 = .ok (.putfield 23, 3) := by decide +kernel
theorem d_SC_init_25 : decode b_SC_init 25 = .ok (.aload_n 0, 1) := by decide +kernel
theorem d_SC_init_26 : decode b_SC_init 26 = .ok (.new 27, 3) := by decide +kernel
theorem d_SC_init_29 : decode b_SC_init 29 = .ok (.dup, 1) := by decide +kernel
theorem d_SC_init_30 : decode b_SC_init 30 = .ok (.aload_n 0, 1) := by decide +kernel
theorem d_SC_init_31 : decode b_SC_init 31 = .ok (.getfield 23, 3) := by decide +kernel
theorem d_SC_init_34 : decode b_SC_init 34 = .ok (.invokespecial 29, 3) := by decide +kernel
theorem d_SC_init_37 : decode b_SC_init 37 = .ok (.putfield 32, 3) := by decide +kernel
theorem d_SC_init_40 : decode b_SC_init 40 = .ok (.aload_n 0, 1) := by decide +kernel
theorem d_SC_init_41 : decode b_SC_init 41 = .ok (.new 36, 3) := by decide +kernel
theorem d_SC_init_44 : decode b_SC_init 44 = .ok (.dup, 1) := by decide +kernel
theorem d_SC_init_45 : decode b_SC_init 45 = .ok (.aload_n 0, 1) := by decide +kernel
theorem d_SC_init_46 : decode b_SC_init 46 = .ok (.getfield 23, 3) := by decide +kernel
theorem d_SC_init_49 : decode b_SC_init 49 = .ok (.invokespecial 38, 3) := by decide +kernel
theorem d_SC_init_52 : decode b_SC_init 52 = .ok (.putfield 39, 3) := by decide +kernel
theorem d_SC_init_55 : decode b_SC_init 55 = .ok (.return_, 1) := by decide +kernel
theorem d_SC_input_0 : decode b_SC_input 0 = .ok (.iload_n 1, 1) := by decide +kernel
theorem d_SC_input_1 : decode b_SC_input 1 = .ok (.ifCond .lt 15, 3) := by decide +kernel
theorem d_SC_input_4 : decode b_SC_input 4 = .ok (.iload_n 1, 1) := by decide +kernel
theorem d_SC_input_5 : decode b_SC_input 5 = .ok (.aload_n 0, 1) := by decide +kernel
theorem d_SC_input_6 : decode b_SC_input 6 = .ok (.getfield 23, 3) := by decide +kernel
theorem d_SC_input_9 : decode b_SC_input 9 = .ok (.getfield 43, 3) := by decide +kernel
theorem d_SC_input_12 : decode b_SC_input 12 = .ok (.arraylength, 1) := by decide +kernel
theorem d_SC_input_13 : decode b_SC_input 13 = .ok (.if_icmp .lt 5, 3) := by decide +kernel
theorem d_SC_input_16 : decode b_SC_input 16 = .ok (.iconst (-1), 1) := by decide +kernel
theorem d_SC_input_17 : decode b_SC_input 17 = .ok (.ireturn, 1) := by decide +kernel
theorem d_SC_input_18 : decode b_SC_input 18 = .ok (.aload_n 0, 1) := by decide +kernel
theorem d_SC_input_19 : decode b_SC_input 19 = .ok (.getfield 23, 3) := by decide +kernel
theorem d_SC_input_22 : decode b_SC_input 22 = .ok (.getfield 43, 3) := by decide +kernel
theorem d_SC_input_25 : decode b_SC_input 25 = .ok (.iload_n 1, 1) := by decide +kernel
theorem d_SC_input_26 : decode b_SC_input 26 = .ok (.iload_n 2, 1) := by decide +kernel
theorem d_SC_input_27 : decode b_SC_input 27 = .ok (.iastore, 1) := by decide +kernel
theorem d_SC_input_28 : decode b_SC_input 28 = .ok (.aload_n 0, 1) := by decide +kernel
theorem d_SC_input_29 : decode b_SC_input 29 = .ok (.invokevirtual 47, 3) := by decide +kernel
theorem d_SC_input_32 : decode b_SC_input 32 = .ok (.iconst 0, 1) := by decide +kernel
theorem d_SC_input_33 : decode b_SC_input 33 = .ok (.ireturn, 1) := by decide +kernel
theorem d_SC_stage_0 : decode b_SC_stage 0 = .ok (.iload_n 2, 1) := by decide +kernel
theorem d_SC_stage_1 : decode b_SC_stage 1 = .ok (.ifCond .lt 8, 3) := by decide +kernel
theorem d_SC_stage_4 : decode b_SC_stage 4 = .ok (.iload_n 2, 1) := by decide +kernel
theorem d_SC_stage_5 : decode b_SC_stage 5 = .ok (.iconst 3, 1) := by decide +kernel
theorem d_SC_stage_6 : decode b_SC_stage 6 = .ok (.if_icmp .le 5, 3) := by decide +kernel
theorem d_SC_stage_9 : decode b_SC_stage 9 = .ok (.iconst (-1), 1) := by decide +kernel
theorem d_SC_stage_10 : decode b_SC_stage 10 = .ok (.ireturn, 1) := by decide +kernel
theorem d_SC_stage_11 : decode b_SC_stage 11 = .ok (.aload_n 0, 1) := by decide +kernel
theorem d_SC_stage_12 : decode b_SC_stage 12 = .ok (.getfield 23, 3) := by decide +kernel
theorem d_SC_stage_15 : decode b_SC_stage 15 = .ok (.getfield 50, 3) := by decide +kernel
theorem d_SC_stage_18 : decode b_SC_stage 18 = .ok (.bipush 8, 2) := by decide +kernel
theorem d_SC_stage_20 : decode b_SC_stage 20 = .ok (.if_icmp .ne 6, 3) := by decide +kernel
theorem d_SC_stage_23 : decode b_SC_stage 23 = .ok (.bipush (-2), 2) := by decide +kernel
theorem d_SC_stage_25 : decode b_SC_stage 25 = .ok (.ireturn, 1) := by decide +kernel
theorem d_SC_stage_26 : decode b_SC_stage 26 = .ok (.aload_n 0, 1) := by decide +kernel
theorem d_SC_stage_27 : decode b_SC_stage 27 = .ok (.getfield 23, 3) := by decide +kernel
theorem d_SC_stage_30 : decode b_SC_stage 30 = .ok (.iload_n 1, 1) := by decide +kernel
theorem d_SC_stage_31 : decode b_SC_stage 31 = .ok (.iload_n 2, 1) := by decide +kernel
theorem d_SC_stage_32 : decode b_SC_stage 32 = .ok (.invokevirtual 54, 3) := by decide +kernel
theorem d_SC_stage_35 : decode b_SC_stage 35 = .ok (.istore_n 3, 1) := by decide +kernel
theorem d_SC_stage_36 : decode b_SC_stage 36 = .ok (.aload_n 0, 1) := by decide +kernel
theorem d_SC_stage_37 : decode b_SC_stage 37 = .ok (.invokevirtual 47, 3) := by decide +kernel
theorem d_SC_stage_40 : decode b_SC_stage 40 = .ok (.iload_n 3, 1) := by decide +kernel
theorem d_SC_stage_41 : decode b_SC_stage 41 = .ok (.ireturn, 1) := by decide +kernel
theorem d_SC_tap_0 : decode b_SC_tap 0 = .ok (.aload_n 0, 1) := by decide +kernel
theorem d_SC_tap_1 : decode b_SC_tap 1 = .ok (.getfield 23, 3) := by decide +kernel
theorem d_SC_tap_4 : decode b_SC_tap 4 = .ok (.iload_n 1, 1) := by decide +kernel
theorem d_SC_tap_5 : decode b_SC_tap 5 = .ok (.invokevirtual 57, 3) := by decide +kernel
theorem d_SC_tap_8 : decode b_SC_tap 8 = .ok (.ifCond .eq 24, 3) := by decide +kernel
theorem d_SC_tap_11 : decode b_SC_tap 11 = .ok (.iload_n 2, 1) := by decide +kernel
theorem d_SC_tap_12 : decode b_SC_tap 12 = .ok (.iconst (-1), 1) := by decide +kernel
theorem d_SC_tap_13 : decode b_SC_tap 13 = .ok (.if_icmp .lt 19, 3) := by decide +kernel
theorem d_SC_tap_16 : decode b_SC_tap 16 = .ok (.iload_n 2, 1) := by decide +kernel
theorem d_SC_tap_17 : decode b_SC_tap 17 = .ok (.iload_n 1, 1) := by decide +kernel
theorem d_SC_tap_18 : decode b_SC_tap 18 = .ok (.if_icmp .ge 14, 3) := by decide +kernel
theorem d_SC_tap_21 : decode b_SC_tap 21 = .ok (.iload_n 3, 1) := by decide +kernel
theorem d_SC_tap_22 : decode b_SC_tap 22 = .ok (.bipush (-4), 2) := by decide +kernel
theorem d_SC_tap_24 : decode b_SC_tap 24 = .ok (.if_icmp .lt 8, 3) := by decide +kernel
theorem d_SC_tap_27 : decode b_SC_tap 27 = .ok (.iload_n 3, 1) := by decide +kernel
theorem d_SC_tap_28 : decode b_SC_tap 28 = .ok (.iconst 4, 1) := by decide +kernel
theorem d_SC_tap_29 : decode b_SC_tap 29 = .ok (.if_icmp .le 5, 3) := by decide +kernel
theorem d_SC_tap_32 : decode b_SC_tap 32 = .ok (.iconst (-1), 1) := by decide +kernel
theorem d_SC_tap_33 : decode b_SC_tap 33 = .ok (.ireturn, 1) := by decide +kernel
theorem d_SC_tap_34 : decode b_SC_tap 34 = .ok (.aload_n 0, 1) := by decide +kernel
theorem d_SC_tap_35 : decode b_SC_tap 35 = .ok (.getfield 23, 3) := by decide +kernel
theorem d_SC_tap_38 : decode b_SC_tap 38 = .ok (.getfield 61, 3) := by decide +kernel
theorem d_SC_tap_41 : decode b_SC_tap 41 = .ok (.iload_n 1, 1) := by decide +kernel
theorem d_SC_tap_42 : decode b_SC_tap 42 = .ok (.aaload, 1) := by decide +kernel
theorem d_SC_tap_43 : decode b_SC_tap 43 = .ok (.astore 5, 2) := by decide +kernel
theorem d_SC_tap_45 : decode b_SC_tap 45 = .ok (.aload 5, 2) := by decide +kernel
theorem d_SC_tap_47 : decode b_SC_tap 47 = .ok (.getfield 65, 3) := by decide +kernel
theorem d_SC_tap_50 : decode b_SC_tap 50 = .ok (.iconst 4, 1) := by decide +kernel
theorem d_SC_tap_51 : decode b_SC_tap 51 = .ok (.if_icmp .ne 6, 3) := by decide +kernel
theorem d_SC_tap_54 : decode b_SC_tap 54 = .ok (.bipush (-2), 2) := by decide +kernel
theorem d_SC_tap_56 : decode b_SC_tap 56 = .ok (.ireturn, 1) := by decide +kernel
theorem d_SC_tap_57 : decode b_SC_tap 57 = .ok (.aload 5, 2) := by decide +kernel
theorem d_SC_tap_59 : decode b_SC_tap 59 = .ok (.iload_n 2, 1) := by decide +kernel
theorem d_SC_tap_60 : decode b_SC_tap 60 = .ok (.iload_n 3, 1) := by decide +kernel
theorem d_SC_tap_61 : decode b_SC_tap 61 = .ok (.iload 4, 2) := by decide +kernel
theorem d_SC_tap_63 : decode b_SC_tap 63 = .ok (.invokevirtual 70, 3) := by decide +kernel
theorem d_SC_tap_66 : decode b_SC_tap 66 = .ok (.aload_n 0, 1) := by decide +kernel
theorem d_SC_tap_67 : decode b_SC_tap 67 = .ok (.invokevirtual 47, 3) := by decide +kernel
theorem d_SC_tap_70 : decode b_SC_tap 70 = .ok (.aload 5, 2) := by decide +kernel
theorem d_SC_tap_72 : decode b_SC_tap 72 = .ok (.getfield 65, 3) := by decide +kernel
theorem d_SC_tap_75 : decode b_SC_tap 75 = .ok (.ireturn, 1) := by decide +kernel
theorem d_SC_mode_0 : decode b_SC_mode 0 = .ok (.aload_n 0, 1) := by decide +kernel
theorem d_SC_mode_1 : decode b_SC_mode 1 = .ok (.getfield 23, 3) := by decide +kernel
theorem d_SC_mode_4 : decode b_SC_mode 4 = .ok (.iload_n 1, 1) := by decide +kernel
theorem d_SC_mode_5 : decode b_SC_mode 5 = .ok (.invokevirtual 57, 3) := by decide +kernel
theorem d_SC_mode_8 : decode b_SC_mode 8 = .ok (.ifCond .eq 12, 3) := by decide +kernel
theorem d_SC_mode_11 : decode b_SC_mode 11 = .ok (.iload_n 2, 1) := by decide +kernel
theorem d_SC_mode_12 : decode b_SC_mode 12 = .ok (.ifCond .lt 8, 3) := by decide +kernel
theorem d_SC_mode_15 : decode b_SC_mode 15 = .ok (.iload_n 2, 1) := by decide +kernel
theorem d_SC_mode_16 : decode b_SC_mode 16 = .ok (.iconst 2, 1) := by decide +kernel
theorem d_SC_mode_17 : decode b_SC_mode 17 = .ok (.if_icmp .le 5, 3) := by decide +kernel
theorem d_SC_mode_20 : decode b_SC_mode 20 = .ok (.iconst (-1), 1) := by decide +kernel
theorem d_SC_mode_21 : decode b_SC_mode 21 = .ok (.ireturn, 1) := by decide +kernel
theorem d_SC_mode_22 : decode b_SC_mode 22 = .ok (.aload_n 0, 1) := by decide +kernel
theorem d_SC_mode_23 : decode b_SC_mode 23 = .ok (.getfield 23, 3) := by decide +kernel
theorem d_SC_mode_26 : decode b_SC_mode 26 = .ok (.getfield 61, 3) := by decide +kernel
theorem d_SC_mode_29 : decode b_SC_mode 29 = .ok (.iload_n 1, 1) := by decide +kernel
theorem d_SC_mode_30 : decode b_SC_mode 30 = .ok (.aaload, 1) := by decide +kernel
theorem d_SC_mode_31 : decode b_SC_mode 31 = .ok (.iload_n 2, 1) := by decide +kernel
theorem d_SC_mode_32 : decode b_SC_mode 32 = .ok (.putfield 74, 3) := by decide +kernel
theorem d_SC_mode_35 : decode b_SC_mode 35 = .ok (.aload_n 0, 1) := by decide +kernel
theorem d_SC_mode_36 : decode b_SC_mode 36 = .ok (.invokevirtual 47, 3) := by decide +kernel
theorem d_SC_mode_39 : decode b_SC_mode 39 = .ok (.iconst 0, 1) := by decide +kernel
theorem d_SC_mode_40 : decode b_SC_mode 40 = .ok (.ireturn, 1) := by decide +kernel
theorem d_SC_tile_0 : decode b_SC_tile 0 = .ok (.iload_n 1, 1) := by decide +kernel
theorem d_SC_tile_1 : decode b_SC_tile 1 = .ok (.iconst 1, 1) := by decide +kernel
theorem d_SC_tile_2 : decode b_SC_tile 2 = .ok (.if_icmp .lt 9, 3) := by decide +kernel
theorem d_SC_tile_5 : decode b_SC_tile 5 = .ok (.iload_n 1, 1) := by decide +kernel
theorem d_SC_tile_6 : decode b_SC_tile 6 = .ok (.bipush 32, 2) := by decide +kernel
theorem d_SC_tile_8 : decode b_SC_tile 8 = .ok (.if_icmp .le 5, 3) := by decide +kernel
theorem d_SC_tile_11 : decode b_SC_tile 11 = .ok (.iconst (-1), 1) := by decide +kernel
theorem d_SC_tile_12 : decode b_SC_tile 12 = .ok (.ireturn, 1) := by decide +kernel
theorem d_SC_tile_13 : decode b_SC_tile 13 = .ok (.aload_n 0, 1) := by decide +kernel
theorem d_SC_tile_14 : decode b_SC_tile 14 = .ok (.getfield 23, 3) := by decide +kernel
theorem d_SC_tile_17 : decode b_SC_tile 17 = .ok (.iload_n 1, 1) := by decide +kernel
theorem d_SC_tile_18 : decode b_SC_tile 18 = .ok (.putfield 77, 3) := by decide +kernel
theorem d_SC_tile_21 : decode b_SC_tile 21 = .ok (.aload_n 0, 1) := by decide +kernel
theorem d_SC_tile_22 : decode b_SC_tile 22 = .ok (.invokevirtual 47, 3) := by decide +kernel
theorem d_SC_tile_25 : decode b_SC_tile 25 = .ok (.iconst 0, 1) := by decide +kernel
theorem d_SC_tile_26 : decode b_SC_tile 26 = .ok (.ireturn, 1) := by decide +kernel
theorem d_SC_output_0 : decode b_SC_output 0 = .ok (.aload_n 0, 1) := by decide +kernel
theorem d_SC_output_1 : decode b_SC_output 1 = .ok (.getfield 23, 3) := by decide +kernel
theorem d_SC_output_4 : decode b_SC_output 4 = .ok (.iload_n 1, 1) := by decide +kernel
theorem d_SC_output_5 : decode b_SC_output 5 = .ok (.invokevirtual 57, 3) := by decide +kernel
theorem d_SC_output_8 : decode b_SC_output 8 = .ok (.ifCond .eq 14, 3) := by decide +kernel
theorem d_SC_output_11 : decode b_SC_output 11 = .ok (.iload_n 2, 1) := by decide +kernel
theorem d_SC_output_12 : decode b_SC_output 12 = .ok (.iconst 1, 1) := by decide +kernel
theorem d_SC_output_13 : decode b_SC_output 13 = .ok (.if_icmp .lt 9, 3) := by decide +kernel
theorem d_SC_output_16 : decode b_SC_output 16 = .ok (.iload_n 2, 1) := by decide +kernel
theorem d_SC_output_17 : decode b_SC_output 17 = .ok (.bipush 32, 2) := by decide +kernel
theorem d_SC_output_19 : decode b_SC_output 19 = .ok (.if_icmp .le 5, 3) := by decide +kernel
theorem d_SC_output_22 : decode b_SC_output 22 = .ok (.iconst (-1), 1) := by decide +kernel
theorem d_SC_output_23 : decode b_SC_output 23 = .ok (.ireturn, 1) := by decide +kernel
theorem d_SC_output_24 : decode b_SC_output 24 = .ok (.aload_n 0, 1) := by decide +kernel
theorem d_SC_output_25 : decode b_SC_output 25 = .ok (.getfield 23, 3) := by decide +kernel
theorem d_SC_output_28 : decode b_SC_output 28 = .ok (.iload_n 1, 1) := by decide +kernel
theorem d_SC_output_29 : decode b_SC_output 29 = .ok (.putfield 80, 3) := by decide +kernel
theorem d_SC_output_32 : decode b_SC_output 32 = .ok (.aload_n 0, 1) := by decide +kernel
theorem d_SC_output_33 : decode b_SC_output 33 = .ok (.getfield 23, 3) := by decide +kernel
theorem d_SC_output_36 : decode b_SC_output 36 = .ok (.iload_n 2, 1) := by decide +kernel
theorem d_SC_output_37 : decode b_SC_output 37 = .ok (.putfield 83, 3) := by decide +kernel
theorem d_SC_output_40 : decode b_SC_output 40 = .ok (.aload_n 0, 1) := by decide +kernel
theorem d_SC_output_41 : decode b_SC_output 41 = .ok (.invokevirtual 47, 3) := by decide +kernel
theorem d_SC_output_44 : decode b_SC_output 44 = .ok (.iconst 0, 1) := by decide +kernel
theorem d_SC_output_45 : decode b_SC_output 45 = .ok (.ireturn, 1) := by decide +kernel
theorem d_SC_compile_0 : decode b_SC_compile 0 = .ok (.aload_n 0, 1) := by decide +kernel
theorem d_SC_compile_1 : decode b_SC_compile 1 = .ok (.getfield 86, 3) := by decide +kernel
theorem d_SC_compile_4 : decode b_SC_compile 4 = .ok (.ifCond .eq 6, 3) := by decide +kernel
theorem d_SC_compile_7 : decode b_SC_compile 7 = .ok (.bipush (-3), 2) := by decide +kernel
theorem d_SC_compile_9 : decode b_SC_compile 9 = .ok (.ireturn, 1) := by decide +kernel
theorem d_SC_compile_10 : decode b_SC_compile 10 = .ok (.aload_n 0, 1) := by decide +kernel
theorem d_SC_compile_11 : decode b_SC_compile 11 = .ok (.getfield 32, 3) := by decide +kernel
theorem d_SC_compile_14 : decode b_SC_compile 14 = .ok (.invokevirtual 90, 3) := by decide +kernel
theorem d_SC_compile_17 : decode b_SC_compile 17 = .ok (.istore_n 1, 1) := by decide +kernel
theorem d_SC_compile_18 : decode b_SC_compile 18 = .ok (.iload_n 1, 1) := by decide +kernel
theorem d_SC_compile_19 : decode b_SC_compile 19 = .ok (.ifCond .eq 5, 3) := by decide +kernel
theorem d_SC_compile_22 : decode b_SC_compile 22 = .ok (.iload_n 1, 1) := by decide +kernel
theorem d_SC_compile_23 : decode b_SC_compile 23 = .ok (.ireturn, 1) := by decide +kernel
theorem d_SC_compile_24 : decode b_SC_compile 24 = .ok (.aload_n 0, 1) := by decide +kernel
theorem d_SC_compile_25 : decode b_SC_compile 25 = .ok (.iconst 1, 1) := by decide +kernel
theorem d_SC_compile_26 : decode b_SC_compile 26 = .ok (.putfield 86, 3) := by decide +kernel
theorem d_SC_compile_29 : decode b_SC_compile 29 = .ok (.aload_n 0, 1) := by decide +kernel
theorem d_SC_compile_30 : decode b_SC_compile 30 = .ok (.getfield 32, 3) := by decide +kernel
theorem d_SC_compile_33 : decode b_SC_compile 33 = .ok (.getfield 94, 3) := by decide +kernel
theorem d_SC_compile_36 : decode b_SC_compile 36 = .ok (.ireturn, 1) := by decide +kernel
theorem d_SC_run_0 : decode b_SC_run 0 = .ok (.aload_n 0, 1) := by decide +kernel
theorem d_SC_run_1 : decode b_SC_run 1 = .ok (.getfield 86, 3) := by decide +kernel
theorem d_SC_run_4 : decode b_SC_run 4 = .ok (.ifCond .ne 6, 3) := by decide +kernel
theorem d_SC_run_7 : decode b_SC_run 7 = .ok (.bipush (-3), 2) := by decide +kernel
theorem d_SC_run_9 : decode b_SC_run 9 = .ok (.ireturn, 1) := by decide +kernel
theorem d_SC_run_10 : decode b_SC_run 10 = .ok (.aload_n 0, 1) := by decide +kernel
theorem d_SC_run_11 : decode b_SC_run 11 = .ok (.getfield 39, 3) := by decide +kernel
theorem d_SC_run_14 : decode b_SC_run 14 = .ok (.aload_n 0, 1) := by decide +kernel
theorem d_SC_run_15 : decode b_SC_run 15 = .ok (.getfield 32, 3) := by decide +kernel
theorem d_SC_run_18 : decode b_SC_run 18 = .ok (.getfield 97, 3) := by decide +kernel
theorem d_SC_run_21 : decode b_SC_run 21 = .ok (.invokevirtual 101, 3) := by decide +kernel
theorem d_SC_run_24 : decode b_SC_run 24 = .ok (.aload_n 0, 1) := by decide +kernel
theorem d_SC_run_25 : decode b_SC_run 25 = .ok (.iconst 1, 1) := by decide +kernel
theorem d_SC_run_26 : decode b_SC_run 26 = .ok (.putfield 105, 3) := by decide +kernel
theorem d_SC_run_29 : decode b_SC_run 29 = .ok (.aload_n 0, 1) := by decide +kernel
theorem d_SC_run_30 : decode b_SC_run 30 = .ok (.getfield 23, 3) := by decide +kernel
theorem d_SC_run_33 : decode b_SC_run 33 = .ok (.invokevirtual 108, 3) := by decide +kernel
theorem d_SC_run_36 : decode b_SC_run 36 = .ok (.ireturn, 1) := by decide +kernel
theorem d_SC_cell_0 : decode b_SC_cell 0 = .ok (.aload_n 0, 1) := by decide +kernel
theorem d_SC_cell_1 : decode b_SC_cell 1 = .ok (.getfield 105, 3) := by decide +kernel
theorem d_SC_cell_4 : decode b_SC_cell 4 = .ok (.ifCond .eq 18, 3) := by decide +kernel
theorem d_SC_cell_7 : decode b_SC_cell 7 = .ok (.iload_n 1, 1) := by decide +kernel
theorem d_SC_cell_8 : decode b_SC_cell 8 = .ok (.ifCond .lt 14, 3) := by decide +kernel
theorem d_SC_cell_11 : decode b_SC_cell 11 = .ok (.iload_n 1, 1) := by decide +kernel
theorem d_SC_cell_12 : decode b_SC_cell 12 = .ok (.aload_n 0, 1) := by decide +kernel
theorem d_SC_cell_13 : decode b_SC_cell 13 = .ok (.getfield 23, 3) := by decide +kernel
theorem d_SC_cell_16 : decode b_SC_cell 16 = .ok (.getfield 83, 3) := by decide +kernel
theorem d_SC_cell_19 : decode b_SC_cell 19 = .ok (.if_icmp .lt 7, 3) := by decide +kernel
theorem d_SC_cell_22 : decode b_SC_cell 22 = .ok (.ldc2_w 111, 3) := by decide +kernel
theorem d_SC_cell_25 : decode b_SC_cell 25 = .ok (.lreturn, 1) := by decide +kernel
theorem d_SC_cell_26 : decode b_SC_cell 26 = .ok (.aload_n 0, 1) := by decide +kernel
theorem d_SC_cell_27 : decode b_SC_cell 27 = .ok (.getfield 39, 3) := by decide +kernel
theorem d_SC_cell_30 : decode b_SC_cell 30 = .ok (.getfield 113, 3) := by decide +kernel
theorem d_SC_cell_33 : decode b_SC_cell 33 = .ok (.iload_n 1, 1) := by decide +kernel
theorem d_SC_cell_34 : decode b_SC_cell 34 = .ok (.iaload, 1) := by decide +kernel
theorem d_SC_cell_35 : decode b_SC_cell 35 = .ok (.i2l, 1) := by decide +kernel
theorem d_SC_cell_36 : decode b_SC_cell 36 = .ok (.lreturn, 1) := by decide +kernel
theorem d_SC_at_0 : decode b_SC_at 0 = .ok (.aload_n 0, 1) := by decide +kernel
theorem d_SC_at_1 : decode b_SC_at 1 = .ok (.getfield 23, 3) := by decide +kernel
theorem d_SC_at_4 : decode b_SC_at 4 = .ok (.iload_n 1, 1) := by decide +kernel
theorem d_SC_at_5 : decode b_SC_at 5 = .ok (.invokevirtual 57, 3) := by decide +kernel
theorem d_SC_at_8 : decode b_SC_at 8 = .ok (.ifCond .eq 29, 3) := by decide +kernel
theorem d_SC_at_11 : decode b_SC_at 11 = .ok (.iload_n 2, 1) := by decide +kernel
theorem d_SC_at_12 : decode b_SC_at 12 = .ok (.bipush (-100), 2) := by decide +kernel
theorem d_SC_at_14 : decode b_SC_at 14 = .ok (.if_icmp .lt 23, 3) := by decide +kernel
theorem d_SC_at_17 : decode b_SC_at 17 = .ok (.iload_n 2, 1) := by decide +kernel
theorem d_SC_at_18 : decode b_SC_at 18 = .ok (.bipush 100, 2) := by decide +kernel
theorem d_SC_at_20 : decode b_SC_at 20 = .ok (.if_icmp .gt 17, 3) := by decide +kernel
theorem d_SC_at_23 : decode b_SC_at 23 = .ok (.aload_n 0, 1) := by decide +kernel
theorem d_SC_at_24 : decode b_SC_at 24 = .ok (.getfield 23, 3) := by decide +kernel
theorem d_SC_at_27 : decode b_SC_at 27 = .ok (.iload_n 1, 1) := by decide +kernel
theorem d_SC_at_28 : decode b_SC_at 28 = .ok (.invokevirtual 116, 3) := by decide +kernel
theorem d_SC_at_31 : decode b_SC_at 31 = .ok (.sipush 3000, 3) := by decide +kernel
theorem d_SC_at_34 : decode b_SC_at 34 = .ok (.if_icmp .le 7, 3) := by decide +kernel
theorem d_SC_at_37 : decode b_SC_at 37 = .ok (.ldc2_w 111, 3) := by decide +kernel
theorem d_SC_at_40 : decode b_SC_at 40 = .ok (.lreturn, 1) := by decide +kernel
theorem d_SC_at_41 : decode b_SC_at 41 = .ok (.aload_n 0, 1) := by decide +kernel
theorem d_SC_at_42 : decode b_SC_at 42 = .ok (.getfield 39, 3) := by decide +kernel
theorem d_SC_at_45 : decode b_SC_at 45 = .ok (.iload_n 1, 1) := by decide +kernel
theorem d_SC_at_46 : decode b_SC_at 46 = .ok (.iload_n 2, 1) := by decide +kernel
theorem d_SC_at_47 : decode b_SC_at 47 = .ok (.invokevirtual 120, 3) := by decide +kernel
theorem d_SC_at_50 : decode b_SC_at 50 = .ok (.i2l, 1) := by decide +kernel
theorem d_SC_at_51 : decode b_SC_at 51 = .ok (.lreturn, 1) := by decide +kernel
theorem d_SC_region_0 : decode b_SC_region 0 = .ok (.aload_n 0, 1) := by decide +kernel
theorem d_SC_region_1 : decode b_SC_region 1 = .ok (.getfield 86, 3) := by decide +kernel
theorem d_SC_region_4 : decode b_SC_region 4 = .ok (.ifCond .ne 7, 3) := by decide +kernel
theorem d_SC_region_7 : decode b_SC_region 7 = .ok (.sipush (-1000), 3) := by decide +kernel
theorem d_SC_region_10 : decode b_SC_region 10 = .ok (.ireturn, 1) := by decide +kernel
theorem d_SC_region_11 : decode b_SC_region 11 = .ok (.aload_n 0, 1) := by decide +kernel
theorem d_SC_region_12 : decode b_SC_region 12 = .ok (.getfield 23, 3) := by decide +kernel
theorem d_SC_region_15 : decode b_SC_region 15 = .ok (.iload_n 1, 1) := by decide +kernel
theorem d_SC_region_16 : decode b_SC_region 16 = .ok (.invokevirtual 57, 3) := by decide +kernel
theorem d_SC_region_19 : decode b_SC_region 19 = .ok (.ifCond .eq 18, 3) := by decide +kernel
theorem d_SC_region_22 : decode b_SC_region 22 = .ok (.aload_n 0, 1) := by decide +kernel
theorem d_SC_region_23 : decode b_SC_region 23 = .ok (.getfield 32, 3) := by decide +kernel
theorem d_SC_region_26 : decode b_SC_region 26 = .ok (.getfield 97, 3) := by decide +kernel
theorem d_SC_region_29 : decode b_SC_region 29 = .ok (.getfield 123, 3) := by decide +kernel
theorem d_SC_region_32 : decode b_SC_region 32 = .ok (.iload_n 1, 1) := by decide +kernel
theorem d_SC_region_33 : decode b_SC_region 33 = .ok (.baload, 1) := by decide +kernel
theorem d_SC_region_34 : decode b_SC_region 34 = .ok (.ifCond .ne 7, 3) := by decide +kernel
theorem d_SC_region_37 : decode b_SC_region 37 = .ok (.sipush (-2000), 3) := by decide +kernel
theorem d_SC_region_40 : decode b_SC_region 40 = .ok (.ireturn, 1) := by decide +kernel
theorem d_SC_region_41 : decode b_SC_region 41 = .ok (.iload_n 2, 1) := by decide +kernel
theorem d_SC_region_42 : decode b_SC_region 42 = .ok (.ifCond .eq 18, 3) := by decide +kernel
theorem d_SC_region_45 : decode b_SC_region 45 = .ok (.aload_n 0, 1) := by decide +kernel
theorem d_SC_region_46 : decode b_SC_region 46 = .ok (.getfield 32, 3) := by decide +kernel
theorem d_SC_region_49 : decode b_SC_region 49 = .ok (.getfield 97, 3) := by decide +kernel
theorem d_SC_region_52 : decode b_SC_region 52 = .ok (.getfield 129, 3) := by decide +kernel
theorem d_SC_region_55 : decode b_SC_region 55 = .ok (.iload_n 1, 1) := by decide +kernel
theorem d_SC_region_56 : decode b_SC_region 56 = .ok (.iaload, 1) := by decide +kernel
theorem d_SC_region_57 : decode b_SC_region 57 = .ok (.goto 15, 3) := by decide +kernel
theorem d_SC_region_60 : decode b_SC_region 60 = .ok (.aload_n 0, 1) := by decide +kernel
theorem d_SC_region_61 : decode b_SC_region 61 = .ok (.getfield 32, 3) := by decide +kernel
theorem d_SC_region_64 : decode b_SC_region 64 = .ok (.getfield 97, 3) := by decide +kernel
theorem d_SC_region_67 : decode b_SC_region 67 = .ok (.getfield 132, 3) := by decide +kernel
theorem d_SC_region_70 : decode b_SC_region 70 = .ok (.iload_n 1, 1) := by decide +kernel
theorem d_SC_region_71 : decode b_SC_region 71 = .ok (.iaload, 1) := by decide +kernel
theorem d_SC_region_72 : decode b_SC_region 72 = .ok (.ireturn, 1) := by decide +kernel
theorem d_SC_work_0 : decode b_SC_work 0 = .ok (.aload_n 0, 1) := by decide +kernel
theorem d_SC_work_1 : decode b_SC_work 1 = .ok (.getfield 23, 3) := by decide +kernel
theorem d_SC_work_4 : decode b_SC_work 4 = .ok (.iload_n 1, 1) := by decide +kernel
theorem d_SC_work_5 : decode b_SC_work 5 = .ok (.invokevirtual 57, 3) := by decide +kernel
theorem d_SC_work_8 : decode b_SC_work 8 = .ok (.ifCond .ne 5, 3) := by decide +kernel
theorem d_SC_work_11 : decode b_SC_work 11 = .ok (.iconst (-1), 1) := by decide +kernel
theorem d_SC_work_12 : decode b_SC_work 12 = .ok (.ireturn, 1) := by decide +kernel
theorem d_SC_work_13 : decode b_SC_work 13 = .ok (.aload_n 0, 1) := by decide +kernel
theorem d_SC_work_14 : decode b_SC_work 14 = .ok (.getfield 86, 3) := by decide +kernel
theorem d_SC_work_17 : decode b_SC_work 17 = .ok (.ifCond .eq 15, 3) := by decide +kernel
theorem d_SC_work_20 : decode b_SC_work 20 = .ok (.aload_n 0, 1) := by decide +kernel
theorem d_SC_work_21 : decode b_SC_work 21 = .ok (.getfield 32, 3) := by decide +kernel
theorem d_SC_work_24 : decode b_SC_work 24 = .ok (.getfield 135, 3) := by decide +kernel
theorem d_SC_work_27 : decode b_SC_work 27 = .ok (.iload_n 1, 1) := by decide +kernel
theorem d_SC_work_28 : decode b_SC_work 28 = .ok (.iaload, 1) := by decide +kernel
theorem d_SC_work_29 : decode b_SC_work 29 = .ok (.goto 5, 3) := by decide +kernel
theorem d_SC_work_32 : decode b_SC_work 32 = .ok (.bipush (-3), 2) := by decide +kernel
theorem d_SC_work_34 : decode b_SC_work 34 = .ok (.ireturn, 1) := by decide +kernel
theorem d_SC_count_0 : decode b_SC_count 0 = .ok (.iload_n 1, 1) := by decide +kernel
theorem d_SC_count_1 : decode b_SC_count 1 = .ok (.tableswitch 159 0 6 #[43, 51, 64, 83, 102, 121, 140], 43) := by decide +kernel
theorem d_SC_count_44 : decode b_SC_count 44 = .ok (.aload_n 0, 1) := by decide +kernel
theorem d_SC_count_45 : decode b_SC_count 45 = .ok (.getfield 23, 3) := by decide +kernel
theorem d_SC_count_48 : decode b_SC_count 48 = .ok (.getfield 50, 3) := by decide +kernel
theorem d_SC_count_51 : decode b_SC_count 51 = .ok (.ireturn, 1) := by decide +kernel
theorem d_SC_count_52 : decode b_SC_count 52 = .ok (.aload_n 0, 1) := by decide +kernel
theorem d_SC_count_53 : decode b_SC_count 53 = .ok (.getfield 86, 3) := by decide +kernel
theorem d_SC_count_56 : decode b_SC_count 56 = .ok (.ifCond .eq 7, 3) := by decide +kernel
theorem d_SC_count_59 : decode b_SC_count 59 = .ok (.iconst 1, 1) := by decide +kernel
theorem d_SC_count_60 : decode b_SC_count 60 = .ok (.goto 4, 3) := by decide +kernel
theorem d_SC_count_63 : decode b_SC_count 63 = .ok (.iconst 0, 1) := by decide +kernel
theorem d_SC_count_64 : decode b_SC_count 64 = .ok (.ireturn, 1) := by decide +kernel
theorem d_SC_count_65 : decode b_SC_count 65 = .ok (.aload_n 0, 1) := by decide +kernel
theorem d_SC_count_66 : decode b_SC_count 66 = .ok (.getfield 86, 3) := by decide +kernel
theorem d_SC_count_69 : decode b_SC_count 69 = .ok (.ifCond .eq 13, 3) := by decide +kernel
theorem d_SC_count_72 : decode b_SC_count 72 = .ok (.aload_n 0, 1) := by decide +kernel
theorem d_SC_count_73 : decode b_SC_count 73 = .ok (.getfield 32, 3) := by decide +kernel
theorem d_SC_count_76 : decode b_SC_count 76 = .ok (.getfield 138, 3) := by decide +kernel
theorem d_SC_count_79 : decode b_SC_count 79 = .ok (.goto 4, 3) := by decide +kernel
theorem d_SC_count_82 : decode b_SC_count 82 = .ok (.iconst 0, 1) := by decide +kernel
theorem d_SC_count_83 : decode b_SC_count 83 = .ok (.ireturn, 1) := by decide +kernel
theorem d_SC_count_84 : decode b_SC_count 84 = .ok (.aload_n 0, 1) := by decide +kernel
theorem d_SC_count_85 : decode b_SC_count 85 = .ok (.getfield 86, 3) := by decide +kernel
theorem d_SC_count_88 : decode b_SC_count 88 = .ok (.ifCond .eq 13, 3) := by decide +kernel
theorem d_SC_count_91 : decode b_SC_count 91 = .ok (.aload_n 0, 1) := by decide +kernel
theorem d_SC_count_92 : decode b_SC_count 92 = .ok (.getfield 32, 3) := by decide +kernel
theorem d_SC_count_95 : decode b_SC_count 95 = .ok (.invokevirtual 141, 3) := by decide +kernel
theorem d_SC_count_98 : decode b_SC_count 98 = .ok (.goto 4, 3) := by decide +kernel
theorem d_SC_count_101 : decode b_SC_count 101 = .ok (.iconst 0, 1) := by decide +kernel
theorem d_SC_count_102 : decode b_SC_count 102 = .ok (.ireturn, 1) := by decide +kernel
theorem d_SC_count_103 : decode b_SC_count 103 = .ok (.aload_n 0, 1) := by decide +kernel
theorem d_SC_count_104 : decode b_SC_count 104 = .ok (.getfield 86, 3) := by decide +kernel
theorem d_SC_count_107 : decode b_SC_count 107 = .ok (.ifCond .eq 13, 3) := by decide +kernel
theorem d_SC_count_110 : decode b_SC_count 110 = .ok (.aload_n 0, 1) := by decide +kernel
theorem d_SC_count_111 : decode b_SC_count 111 = .ok (.getfield 23, 3) := by decide +kernel
theorem d_SC_count_114 : decode b_SC_count 114 = .ok (.invokevirtual 108, 3) := by decide +kernel
theorem d_SC_count_117 : decode b_SC_count 117 = .ok (.goto 4, 3) := by decide +kernel
theorem d_SC_count_120 : decode b_SC_count 120 = .ok (.iconst 0, 1) := by decide +kernel
theorem d_SC_count_121 : decode b_SC_count 121 = .ok (.ireturn, 1) := by decide +kernel
theorem d_SC_count_122 : decode b_SC_count 122 = .ok (.aload_n 0, 1) := by decide +kernel
theorem d_SC_count_123 : decode b_SC_count 123 = .ok (.getfield 86, 3) := by decide +kernel
theorem d_SC_count_126 : decode b_SC_count 126 = .ok (.ifCond .eq 13, 3) := by decide +kernel
theorem d_SC_count_129 : decode b_SC_count 129 = .ok (.aload_n 0, 1) := by decide +kernel
theorem d_SC_count_130 : decode b_SC_count 130 = .ok (.getfield 32, 3) := by decide +kernel
theorem d_SC_count_133 : decode b_SC_count 133 = .ok (.getfield 144, 3) := by decide +kernel
theorem d_SC_count_136 : decode b_SC_count 136 = .ok (.goto 4, 3) := by decide +kernel
theorem d_SC_count_139 : decode b_SC_count 139 = .ok (.iconst 0, 1) := by decide +kernel
theorem d_SC_count_140 : decode b_SC_count 140 = .ok (.ireturn, 1) := by decide +kernel
theorem d_SC_count_141 : decode b_SC_count 141 = .ok (.aload_n 0, 1) := by decide +kernel
theorem d_SC_count_142 : decode b_SC_count 142 = .ok (.getfield 86, 3) := by decide +kernel
theorem d_SC_count_145 : decode b_SC_count 145 = .ok (.ifCond .eq 13, 3) := by decide +kernel
theorem d_SC_count_148 : decode b_SC_count 148 = .ok (.aload_n 0, 1) := by decide +kernel
theorem d_SC_count_149 : decode b_SC_count 149 = .ok (.getfield 32, 3) := by decide +kernel
theorem d_SC_count_152 : decode b_SC_count 152 = .ok (.getfield 94, 3) := by decide +kernel
theorem d_SC_count_155 : decode b_SC_count 155 = .ok (.goto 4, 3) := by decide +kernel
theorem d_SC_count_158 : decode b_SC_count 158 = .ok (.iconst 0, 1) := by decide +kernel
theorem d_SC_count_159 : decode b_SC_count 159 = .ok (.ireturn, 1) := by decide +kernel
theorem d_SC_count_160 : decode b_SC_count 160 = .ok (.iconst (-1), 1) := by decide +kernel
theorem d_SC_count_161 : decode b_SC_count 161 = .ok (.ireturn, 1) := by decide +kernel
theorem d_SC_forgetCompiled_0 : decode b_SC_forgetCompiled 0 = .ok (.aload_n 0, 1) := by decide +kernel
theorem d_SC_forgetCompiled_1 : decode b_SC_forgetCompiled 1 = .ok (.iconst 0, 1) := by decide +kernel
theorem d_SC_forgetCompiled_2 : decode b_SC_forgetCompiled 2 = .ok (.putfield 86, 3) := by decide +kernel
theorem d_SC_forgetCompiled_5 : decode b_SC_forgetCompiled 5 = .ok (.aload_n 0, 1) := by decide +kernel
theorem d_SC_forgetCompiled_6 : decode b_SC_forgetCompiled 6 = .ok (.iconst 0, 1) := by decide +kernel
theorem d_SC_forgetCompiled_7 : decode b_SC_forgetCompiled 7 = .ok (.putfield 105, 3) := by decide +kernel
theorem d_SC_forgetCompiled_10 : decode b_SC_forgetCompiled 10 = .ok (.return_, 1) := by decide +kernel
theorem d_Needs_init_0 : decode b_Needs_init 0 = .ok (.aload_n 0, 1) := by decide +kernel
theorem d_Needs_init_1 : decode b_Needs_init 1 = .ok (.invokespecial 3, 3) := by decide +kernel
theorem d_Needs_init_4 : decode b_Needs_init 4 = .ok (.aload_n 0, 1) := by decide +kernel
theorem d_Needs_init_5 : decode b_Needs_init 5 = .ok (.bipush 8, 2) := by decide +kernel
theorem d_Needs_init_7 : decode b_Needs_init 7 = .ok (.newarray .boolean, 2) := by decide +kernel
theorem d_Needs_init_9 : decode b_Needs_init 9 = .ok (.putfield 9, 3) := by decide +kernel
theorem d_Needs_init_12 : decode b_Needs_init 12 = .ok (.aload_n 0, 1) := by decide +kernel
theorem d_Needs_init_13 : decode b_Needs_init 13 = .ok (.bipush 8, 2) := by decide +kernel
theorem d_Needs_init_15 : decode b_Needs_init 15 = .ok (.newarray .int, 2) := by decide +kernel
theorem d_Needs_init_17 : decode b_Needs_init 17 = .ok (.putfield 15, 3) := by decide +kernel
theorem d_Needs_init_20 : decode b_Needs_init 20 = .ok (.aload_n 0, 1) := by decide +kernel
theorem d_Needs_init_21 : decode b_Needs_init 21 = .ok (.bipush 8, 2) := by decide +kernel
theorem d_Needs_init_23 : decode b_Needs_init 23 = .ok (.newarray .int, 2) := by decide +kernel
theorem d_Needs_init_25 : decode b_Needs_init 25 = .ok (.putfield 19, 3) := by decide +kernel
theorem d_Needs_init_28 : decode b_Needs_init 28 = .ok (.return_, 1) := by decide +kernel
theorem d_Needs_spread_0 : decode b_Needs_spread 0 = .ok (.iconst 0, 1) := by decide +kernel
theorem d_Needs_spread_1 : decode b_Needs_spread 1 = .ok (.istore 4, 2) := by decide +kernel
theorem d_Needs_spread_3 : decode b_Needs_spread 3 = .ok (.iload 4, 2) := by decide +kernel
theorem d_Needs_spread_5 : decode b_Needs_spread 5 = .ok (.bipush 8, 2) := by decide +kernel
theorem d_Needs_spread_7 : decode b_Needs_spread 7 = .ok (.if_icmp .ge 17, 3) := by decide +kernel
theorem d_Needs_spread_10 : decode b_Needs_spread 10 = .ok (.aload_n 0, 1) := by decide +kernel
