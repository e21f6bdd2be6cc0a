theorem d_Plan_hasTiledToWorkOut_34 : decode b_Plan_hasTiledToWorkOut 34 = .ok (.getfield 97, 3) := by decide +kernel
theorem d_Plan_hasTiledToWorkOut_37 : decode b_Plan_hasTiledToWorkOut 37 = .ok (.istore 4, 2) := by decide +kernel
theorem d_Plan_hasTiledToWorkOut_39 : decode b_Plan_hasTiledToWorkOut 39 = .ok (.iload 4, 2) := by decide +kernel
theorem d_Plan_hasTiledToWorkOut_41 : decode b_Plan_hasTiledToWorkOut 41 = .ok (.iconst 2, 1) := by decide +kernel
theorem d_Plan_hasTiledToWorkOut_42 : decode b_Plan_hasTiledToWorkOut 42 = .ok (.if_icmp .eq 17, 3) := by decide +kernel
theorem d_Plan_hasTiledToWorkOut_45 : decode b_Plan_hasTiledToWorkOut 45 = .ok (.iload 4, 2) := by decide +kernel
theorem d_Plan_hasTiledToWorkOut_47 : decode b_Plan_hasTiledToWorkOut 47 = .ok (.ifCond .ne 14, 3) := by decide +kernel
theorem d_Plan_hasTiledToWorkOut_50 : decode b_Plan_hasTiledToWorkOut 50 = .ok (.aload_n 0, 1) := by decide +kernel
theorem d_Plan_hasTiledToWorkOut_51 : decode b_Plan_hasTiledToWorkOut 51 = .ok (.getfield 21, 3) := by decide +kernel
theorem d_Plan_hasTiledToWorkOut_54 : decode b_Plan_hasTiledToWorkOut 54 = .ok (.iload_n 3, 1) := by decide +kernel
theorem d_Plan_hasTiledToWorkOut_55 : decode b_Plan_hasTiledToWorkOut 55 = .ok (.baload, 1) := by decide +kernel
theorem d_Plan_hasTiledToWorkOut_56 : decode b_Plan_hasTiledToWorkOut 56 = .ok (.ifCond .eq 5, 3) := by decide +kernel
theorem d_Plan_hasTiledToWorkOut_59 : decode b_Plan_hasTiledToWorkOut 59 = .ok (.iconst 1, 1) := by decide +kernel
theorem d_Plan_hasTiledToWorkOut_60 : decode b_Plan_hasTiledToWorkOut 60 = .ok (.ireturn, 1) := by decide +kernel
theorem d_Plan_hasTiledToWorkOut_61 : decode b_Plan_hasTiledToWorkOut 61 = .ok (.iinc 2 1, 3) := by decide +kernel
theorem d_Plan_hasTiledToWorkOut_64 : decode b_Plan_hasTiledToWorkOut 64 = .ok (.goto (-62), 3) := by decide +kernel
theorem d_Plan_hasTiledToWorkOut_67 : decode b_Plan_hasTiledToWorkOut 67 = .ok (.iconst 0, 1) := by decide +kernel
theorem d_Plan_hasTiledToWorkOut_68 : decode b_Plan_hasTiledToWorkOut 68 = .ok (.ireturn, 1) := by decide +kernel
theorem d_Plan_measureOutput_0 : decode b_Plan_measureOutput 0 = .ok (.aload_n 0, 1) := by decide +kernel
theorem d_Plan_measureOutput_1 : decode b_Plan_measureOutput 1 = .ok (.getfield 25, 3) := by decide +kernel
theorem d_Plan_measureOutput_4 : decode b_Plan_measureOutput 4 = .ok (.aload_n 0, 1) := by decide +kernel
theorem d_Plan_measureOutput_5 : decode b_Plan_measureOutput 5 = .ok (.getfield 29, 3) := by decide +kernel
theorem d_Plan_measureOutput_8 : decode b_Plan_measureOutput 8 = .ok (.getfield 33, 3) := by decide +kernel
theorem d_Plan_measureOutput_11 : decode b_Plan_measureOutput 11 = .ok (.aload_n 0, 1) := by decide +kernel
theorem d_Plan_measureOutput_12 : decode b_Plan_measureOutput 12 = .ok (.getfield 29, 3) := by decide +kernel
theorem d_Plan_measureOutput_15 : decode b_Plan_measureOutput 15 = .ok (.getfield 39, 3) := by decide +kernel
theorem d_Plan_measureOutput_18 : decode b_Plan_measureOutput 18 = .ok (.iastore, 1) := by decide +kernel
theorem d_Plan_measureOutput_19 : decode b_Plan_measureOutput 19 = .ok (.return_, 1) := by decide +kernel
theorem d_Plan_measureRoots_0 : decode b_Plan_measureRoots 0 = .ok (.iconst 0, 1) := by decide +kernel
theorem d_Plan_measureRoots_1 : decode b_Plan_measureRoots 1 = .ok (.istore_n 1, 1) := by decide +kernel
theorem d_Plan_measureRoots_2 : decode b_Plan_measureRoots 2 = .ok (.iload_n 1, 1) := by decide +kernel
theorem d_Plan_measureRoots_3 : decode b_Plan_measureRoots 3 = .ok (.aload_n 0, 1) := by decide +kernel
theorem d_Plan_measureRoots_4 : decode b_Plan_measureRoots 4 = .ok (.getfield 29, 3) := by decide +kernel
theorem d_Plan_measureRoots_7 : decode b_Plan_measureRoots 7 = .ok (.getfield 33, 3) := by decide +kernel
theorem d_Plan_measureRoots_10 : decode b_Plan_measureRoots 10 = .ok (.if_icmp .ge 47, 3) := by decide +kernel
theorem d_Plan_measureRoots_13 : decode b_Plan_measureRoots 13 = .ok (.aload_n 0, 1) := by decide +kernel
theorem d_Plan_measureRoots_14 : decode b_Plan_measureRoots 14 = .ok (.iload_n 1, 1) := by decide +kernel
theorem d_Plan_measureRoots_15 : decode b_Plan_measureRoots 15 = .ok (.iconst 1, 1) := by decide +kernel
theorem d_Plan_measureRoots_16 : decode b_Plan_measureRoots 16 = .ok (.invokevirtual 85, 3) := by decide +kernel
theorem d_Plan_measureRoots_19 : decode b_Plan_measureRoots 19 = .ok (.ifCond .eq 32, 3) := by decide +kernel
theorem d_Plan_measureRoots_22 : decode b_Plan_measureRoots 22 = .ok (.aload_n 0, 1) := by decide +kernel
theorem d_Plan_measureRoots_23 : decode b_Plan_measureRoots 23 = .ok (.getfield 25, 3) := by decide +kernel
theorem d_Plan_measureRoots_26 : decode b_Plan_measureRoots 26 = .ok (.iload_n 1, 1) := by decide +kernel
theorem d_Plan_measureRoots_27 : decode b_Plan_measureRoots 27 = .ok (.aload_n 0, 1) := by decide +kernel
theorem d_Plan_measureRoots_28 : decode b_Plan_measureRoots 28 = .ok (.getfield 12, 3) := by decide +kernel
theorem d_Plan_measureRoots_31 : decode b_Plan_measureRoots 31 = .ok (.iload_n 1, 1) := by decide +kernel
theorem d_Plan_measureRoots_32 : decode b_Plan_measureRoots 32 = .ok (.invokevirtual 100, 3) := by decide +kernel
theorem d_Plan_measureRoots_35 : decode b_Plan_measureRoots 35 = .ok (.iastore, 1) := by decide +kernel
theorem d_Plan_measureRoots_36 : decode b_Plan_measureRoots 36 = .ok (.aload_n 0, 1) := by decide +kernel
theorem d_Plan_measureRoots_37 : decode b_Plan_measureRoots 37 = .ok (.dup, 1) := by decide +kernel
theorem d_Plan_measureRoots_38 : decode b_Plan_measureRoots 38 = .ok (.getfield 56, 3) := by decide +kernel
theorem d_Plan_measureRoots_41 : decode b_Plan_measureRoots 41 = .ok (.aload_n 0, 1) := by decide +kernel
theorem d_Plan_measureRoots_42 : decode b_Plan_measureRoots 42 = .ok (.getfield 25, 3) := by decide +kernel
theorem d_Plan_measureRoots_45 : decode b_Plan_measureRoots 45 = .ok (.iload_n 1, 1) := by decide +kernel
theorem d_Plan_measureRoots_46 : decode b_Plan_measureRoots 46 = .ok (.iaload, 1) := by decide +kernel
theorem d_Plan_measureRoots_47 : decode b_Plan_measureRoots 47 = .ok (.iadd, 1) := by decide +kernel
theorem d_Plan_measureRoots_48 : decode b_Plan_measureRoots 48 = .ok (.putfield 56, 3) := by decide +kernel
theorem d_Plan_measureRoots_51 : decode b_Plan_measureRoots 51 = .ok (.iinc 1 1, 3) := by decide +kernel
theorem d_Plan_measureRoots_54 : decode b_Plan_measureRoots 54 = .ok (.goto (-52), 3) := by decide +kernel
theorem d_Plan_measureRoots_57 : decode b_Plan_measureRoots 57 = .ok (.return_, 1) := by decide +kernel
theorem d_Plan_measureTiles_0 : decode b_Plan_measureTiles 0 = .ok (.iconst 0, 1) := by decide +kernel
theorem d_Plan_measureTiles_1 : decode b_Plan_measureTiles 1 = .ok (.istore_n 1, 1) := by decide +kernel
theorem d_Plan_measureTiles_2 : decode b_Plan_measureTiles 2 = .ok (.iconst 0, 1) := by decide +kernel
theorem d_Plan_measureTiles_3 : decode b_Plan_measureTiles 3 = .ok (.istore_n 2, 1) := by decide +kernel
theorem d_Plan_measureTiles_4 : decode b_Plan_measureTiles 4 = .ok (.iload_n 2, 1) := by decide +kernel
theorem d_Plan_measureTiles_5 : decode b_Plan_measureTiles 5 = .ok (.aload_n 0, 1) := by decide +kernel
theorem d_Plan_measureTiles_6 : decode b_Plan_measureTiles 6 = .ok (.getfield 29, 3) := by decide +kernel
theorem d_Plan_measureTiles_9 : decode b_Plan_measureTiles 9 = .ok (.invokevirtual 104, 3) := by decide +kernel
theorem d_Plan_measureTiles_12 : decode b_Plan_measureTiles 12 = .ok (.if_icmp .ge 45, 3) := by decide +kernel
theorem d_Plan_measureTiles_15 : decode b_Plan_measureTiles 15 = .ok (.aload_n 0, 1) := by decide +kernel
theorem d_Plan_measureTiles_16 : decode b_Plan_measureTiles 16 = .ok (.getfield 18, 3) := by decide +kernel
theorem d_Plan_measureTiles_19 : decode b_Plan_measureTiles 19 = .ok (.aload_n 0, 1) := by decide +kernel
theorem d_Plan_measureTiles_20 : decode b_Plan_measureTiles 20 = .ok (.getfield 29, 3) := by decide +kernel
theorem d_Plan_measureTiles_23 : decode b_Plan_measureTiles 23 = .ok (.aload_n 0, 1) := by decide +kernel
theorem d_Plan_measureTiles_24 : decode b_Plan_measureTiles 24 = .ok (.getfield 29, 3) := by decide +kernel
theorem d_Plan_measureTiles_27 : decode b_Plan_measureTiles 27 = .ok (.iload_n 2, 1) := by decide +kernel
theorem d_Plan_measureTiles_28 : decode b_Plan_measureTiles 28 = .ok (.invokevirtual 107, 3) := by decide +kernel
theorem d_Plan_measureTiles_31 : decode b_Plan_measureTiles 31 = .ok (.aload_n 0, 1) := by decide +kernel
theorem d_Plan_measureTiles_32 : decode b_Plan_measureTiles 32 = .ok (.getfield 29, 3) := by decide +kernel
theorem d_Plan_measureTiles_35 : decode b_Plan_measureTiles 35 = .ok (.iload_n 2, 1) := by decide +kernel
theorem d_Plan_measureTiles_36 : decode b_Plan_measureTiles 36 = .ok (.invokevirtual 110, 3) := by decide +kernel
theorem d_Plan_measureTiles_39 : decode b_Plan_measureTiles 39 = .ok (.invokevirtual 42, 3) := by decide +kernel
theorem d_Plan_measureTiles_42 : decode b_Plan_measureTiles 42 = .ok (.iload_n 1, 1) := by decide +kernel
theorem d_Plan_measureTiles_43 : decode b_Plan_measureTiles 43 = .ok (.aload_n 0, 1) := by decide +kernel
theorem d_Plan_measureTiles_44 : decode b_Plan_measureTiles 44 = .ok (.invokevirtual 113, 3) := by decide +kernel
theorem d_Plan_measureTiles_47 : decode b_Plan_measureTiles 47 = .ok (.invokestatic 116, 3) := by decide +kernel
theorem d_Plan_measureTiles_50 : decode b_Plan_measureTiles 50 = .ok (.istore_n 1, 1) := by decide +kernel
theorem d_Plan_measureTiles_51 : decode b_Plan_measureTiles 51 = .ok (.iinc 2 1, 3) := by decide +kernel
theorem d_Plan_measureTiles_54 : decode b_Plan_measureTiles 54 = .ok (.goto (-50), 3) := by decide +kernel
theorem d_Plan_measureTiles_57 : decode b_Plan_measureTiles 57 = .ok (.aload_n 0, 1) := by decide +kernel
theorem d_Plan_measureTiles_58 : decode b_Plan_measureTiles 58 = .ok (.dup, 1) := by decide +kernel
theorem d_Plan_measureTiles_59 : decode b_Plan_measureTiles 59 = .ok (.getfield 56, 3) := by decide +kernel
theorem d_Plan_measureTiles_62 : decode b_Plan_measureTiles 62 = .ok (.iload_n 1, 1) := by decide +kernel
theorem d_Plan_measureTiles_63 : decode b_Plan_measureTiles 63 = .ok (.iadd, 1) := by decide +kernel
theorem d_Plan_measureTiles_64 : decode b_Plan_measureTiles 64 = .ok (.putfield 56, 3) := by decide +kernel
theorem d_Plan_measureTiles_67 : decode b_Plan_measureTiles 67 = .ok (.return_, 1) := by decide +kernel
theorem d_Plan_measureTileInHand_0 : decode b_Plan_measureTileInHand 0 = .ok (.iconst 0, 1) := by decide +kernel
theorem d_Plan_measureTileInHand_1 : decode b_Plan_measureTileInHand 1 = .ok (.istore_n 1, 1) := by decide +kernel
theorem d_Plan_measureTileInHand_2 : decode b_Plan_measureTileInHand 2 = .ok (.iconst 0, 1) := by decide +kernel
theorem d_Plan_measureTileInHand_3 : decode b_Plan_measureTileInHand 3 = .ok (.istore_n 2, 1) := by decide +kernel
theorem d_Plan_measureTileInHand_4 : decode b_Plan_measureTileInHand 4 = .ok (.iload_n 2, 1) := by decide +kernel
theorem d_Plan_measureTileInHand_5 : decode b_Plan_measureTileInHand 5 = .ok (.aload_n 0, 1) := by decide +kernel
theorem d_Plan_measureTileInHand_6 : decode b_Plan_measureTileInHand 6 = .ok (.getfield 29, 3) := by decide +kernel
theorem d_Plan_measureTileInHand_9 : decode b_Plan_measureTileInHand 9 = .ok (.getfield 33, 3) := by decide +kernel
theorem d_Plan_measureTileInHand_12 : decode b_Plan_measureTileInHand 12 = .ok (.if_icmp .ge 53, 3) := by decide +kernel
theorem d_Plan_measureTileInHand_15 : decode b_Plan_measureTileInHand 15 = .ok (.aload_n 0, 1) := by decide +kernel
theorem d_Plan_measureTileInHand_16 : decode b_Plan_measureTileInHand 16 = .ok (.iload_n 2, 1) := by decide +kernel
theorem d_Plan_measureTileInHand_17 : decode b_Plan_measureTileInHand 17 = .ok (.iconst 2, 1) := by decide +kernel
theorem d_Plan_measureTileInHand_18 : decode b_Plan_measureTileInHand 18 = .ok (.invokevirtual 85, 3) := by decide +kernel
theorem d_Plan_measureTileInHand_21 : decode b_Plan_measureTileInHand 21 = .ok (.ifCond .eq 38, 3) := by decide +kernel
theorem d_Plan_measureTileInHand_24 : decode b_Plan_measureTileInHand 24 = .ok (.aload_n 0, 1) := by decide +kernel
theorem d_Plan_measureTileInHand_25 : decode b_Plan_measureTileInHand 25 = .ok (.getfield 18, 3) := by decide +kernel
theorem d_Plan_measureTileInHand_28 : decode b_Plan_measureTileInHand 28 = .ok (.iload_n 2, 1) := by decide +kernel
theorem d_Plan_measureTileInHand_29 : decode b_Plan_measureTileInHand 29 = .ok (.invokevirtual 100, 3) := by decide +kernel
theorem d_Plan_measureTileInHand_32 : decode b_Plan_measureTileInHand 32 = .ok (.istore_n 3, 1) := by decide +kernel
theorem d_Plan_measureTileInHand_33 : decode b_Plan_measureTileInHand 33 = .ok (.aload_n 0, 1) := by decide +kernel
theorem d_Plan_measureTileInHand_34 : decode b_Plan_measureTileInHand 34 = .ok (.getfield 25, 3) := by decide +kernel
theorem d_Plan_measureTileInHand_37 : decode b_Plan_measureTileInHand 37 = .ok (.iload_n 2, 1) := by decide +kernel
theorem d_Plan_measureTileInHand_38 : decode b_Plan_measureTileInHand 38 = .ok (.dup2, 1) := by decide +kernel
theorem d_Plan_measureTileInHand_39 : decode b_Plan_measureTileInHand 39 = .ok (.iaload, 1) := by decide +kernel
theorem d_Plan_measureTileInHand_40 : decode b_Plan_measureTileInHand 40 = .ok (.iload_n 3, 1) := by decide +kernel
theorem d_Plan_measureTileInHand_41 : decode b_Plan_measureTileInHand 41 = .ok (.iadd, 1) := by decide +kernel
theorem d_Plan_measureTileInHand_42 : decode b_Plan_measureTileInHand 42 = .ok (.iastore, 1) := by decide +kernel
theorem d_Plan_measureTileInHand_43 : decode b_Plan_measureTileInHand 43 = .ok (.aload_n 0, 1) := by decide +kernel
theorem d_Plan_measureTileInHand_44 : decode b_Plan_measureTileInHand 44 = .ok (.aload_n 0, 1) := by decide +kernel
theorem d_Plan_measureTileInHand_45 : decode b_Plan_measureTileInHand 45 = .ok (.getfield 59, 3) := by decide +kernel
theorem d_Plan_measureTileInHand_48 : decode b_Plan_measureTileInHand 48 = .ok (.iload_n 3, 1) := by decide +kernel
theorem d_Plan_measureTileInHand_49 : decode b_Plan_measureTileInHand 49 = .ok (.invokestatic 116, 3) := by decide +kernel
theorem d_Plan_measureTileInHand_52 : decode b_Plan_measureTileInHand 52 = .ok (.putfield 59, 3) := by decide +kernel
theorem d_Plan_measureTileInHand_55 : decode b_Plan_measureTileInHand 55 = .ok (.iload_n 1, 1) := by decide +kernel
theorem d_Plan_measureTileInHand_56 : decode b_Plan_measureTileInHand 56 = .ok (.iload_n 3, 1) := by decide +kernel
theorem d_Plan_measureTileInHand_57 : decode b_Plan_measureTileInHand 57 = .ok (.iadd, 1) := by decide +kernel
theorem d_Plan_measureTileInHand_58 : decode b_Plan_measureTileInHand 58 = .ok (.istore_n 1, 1) := by decide +kernel
theorem d_Plan_measureTileInHand_59 : decode b_Plan_measureTileInHand 59 = .ok (.iinc 2 1, 3) := by decide +kernel
theorem d_Plan_measureTileInHand_62 : decode b_Plan_measureTileInHand 62 = .ok (.goto (-58), 3) := by decide +kernel
theorem d_Plan_measureTileInHand_65 : decode b_Plan_measureTileInHand 65 = .ok (.iload_n 1, 1) := by decide +kernel
theorem d_Plan_measureTileInHand_66 : decode b_Plan_measureTileInHand 66 = .ok (.ireturn, 1) := by decide +kernel
theorem d_Plan_measureInlines_0 : decode b_Plan_measureInlines 0 = .ok (.aload_n 0, 1) := by decide +kernel
theorem d_Plan_measureInlines_1 : decode b_Plan_measureInlines 1 = .ok (.iconst 0, 1) := by decide +kernel
theorem d_Plan_measureInlines_2 : decode b_Plan_measureInlines 2 = .ok (.putfield 74, 3) := by decide +kernel
theorem d_Plan_measureInlines_5 : decode b_Plan_measureInlines 5 = .ok (.aload_n 0, 1) := by decide +kernel
theorem d_Plan_measureInlines_6 : decode b_Plan_measureInlines 6 = .ok (.getfield 29, 3) := by decide +kernel
theorem d_Plan_measureInlines_9 : decode b_Plan_measureInlines 9 = .ok (.getfield 33, 3) := by decide +kernel
theorem d_Plan_measureInlines_12 : decode b_Plan_measureInlines 12 = .ok (.istore_n 1, 1) := by decide +kernel
theorem d_Plan_measureInlines_13 : decode b_Plan_measureInlines 13 = .ok (.iload_n 1, 1) := by decide +kernel
theorem d_Plan_measureInlines_14 : decode b_Plan_measureInlines 14 = .ok (.ifCond .lt 29, 3) := by decide +kernel
theorem d_Plan_measureInlines_17 : decode b_Plan_measureInlines 17 = .ok (.aload_n 0, 1) := by decide +kernel
theorem d_Plan_measureInlines_18 : decode b_Plan_measureInlines 18 = .ok (.dup, 1) := by decide +kernel
theorem d_Plan_measureInlines_19 : decode b_Plan_measureInlines 19 = .ok (.getfield 74, 3) := by decide +kernel
theorem d_Plan_measureInlines_22 : decode b_Plan_measureInlines 22 = .ok (.aload_n 0, 1) := by decide +kernel
theorem d_Plan_measureInlines_23 : decode b_Plan_measureInlines 23 = .ok (.getfield 25, 3) := by decide +kernel
theorem d_Plan_measureInlines_26 : decode b_Plan_measureInlines 26 = .ok (.iload_n 1, 1) := by decide +kernel
theorem d_Plan_measureInlines_27 : decode b_Plan_measureInlines 27 = .ok (.iaload, 1) := by decide +kernel
theorem d_Plan_measureInlines_28 : decode b_Plan_measureInlines 28 = .ok (.iadd, 1) := by decide +kernel
theorem d_Plan_measureInlines_29 : decode b_Plan_measureInlines 29 = .ok (.putfield 74, 3) := by decide +kernel
theorem d_Plan_measureInlines_32 : decode b_Plan_measureInlines 32 = .ok (.aload_n 0, 1) := by decide +kernel
theorem d_Plan_measureInlines_33 : decode b_Plan_measureInlines 33 = .ok (.iload_n 1, 1) := by decide +kernel
theorem d_Plan_measureInlines_34 : decode b_Plan_measureInlines 34 = .ok (.invokevirtual 122, 3) := by decide +kernel
theorem d_Plan_measureInlines_37 : decode b_Plan_measureInlines 37 = .ok (.iinc 1 (-1), 3) := by decide +kernel
theorem d_Plan_measureInlines_40 : decode b_Plan_measureInlines 40 = .ok (.goto (-27), 3) := by decide +kernel
theorem d_Plan_measureInlines_43 : decode b_Plan_measureInlines 43 = .ok (.return_, 1) := by decide +kernel
theorem d_Plan_askInlineSources_0 : decode b_Plan_askInlineSources 0 = .ok (.aload_n 0, 1) := by decide +kernel
theorem d_Plan_askInlineSources_1 : decode b_Plan_askInlineSources 1 = .ok (.getfield 29, 3) := by decide +kernel
theorem d_Plan_askInlineSources_4 : decode b_Plan_askInlineSources 4 = .ok (.getfield 77, 3) := by decide +kernel
theorem d_Plan_askInlineSources_7 : decode b_Plan_askInlineSources 7 = .ok (.iload_n 1, 1) := by decide +kernel
theorem d_Plan_askInlineSources_8 : decode b_Plan_askInlineSources 8 = .ok (.aaload, 1) := by decide +kernel
theorem d_Plan_askInlineSources_9 : decode b_Plan_askInlineSources 9 = .ok (.astore_n 2, 1) := by decide +kernel
theorem d_Plan_askInlineSources_10 : decode b_Plan_askInlineSources 10 = .ok (.iconst 0, 1) := by decide +kernel
theorem d_Plan_askInlineSources_11 : decode b_Plan_askInlineSources 11 = .ok (.istore_n 3, 1) := by decide +kernel
theorem d_Plan_askInlineSources_12 : decode b_Plan_askInlineSources 12 = .ok (.iload_n 3, 1) := by decide +kernel
theorem d_Plan_askInlineSources_13 : decode b_Plan_askInlineSources 13 = .ok (.aload_n 2, 1) := by decide +kernel
theorem d_Plan_askInlineSources_14 : decode b_Plan_askInlineSources 14 = .ok (.getfield 89, 3) := by decide +kernel
theorem d_Plan_askInlineSources_17 : decode b_Plan_askInlineSources 17 = .ok (.if_icmp .ge 55, 3) := by decide +kernel
theorem d_Plan_askInlineSources_20 : decode b_Plan_askInlineSources 20 = .ok (.aload_n 2, 1) := by decide +kernel
theorem d_Plan_askInlineSources_21 : decode b_Plan_askInlineSources 21 = .ok (.getfield 94, 3) := by decide +kernel
theorem d_Plan_askInlineSources_24 : decode b_Plan_askInlineSources 24 = .ok (.iload_n 3, 1) := by decide +kernel
theorem d_Plan_askInlineSources_25 : decode b_Plan_askInlineSources 25 = .ok (.iaload, 1) := by decide +kernel
theorem d_Plan_askInlineSources_26 : decode b_Plan_askInlineSources 26 = .ok (.istore 4, 2) := by decide +kernel
theorem d_Plan_askInlineSources_28 : decode b_Plan_askInlineSources 28 = .ok (.iload 4, 2) := by decide +kernel
theorem d_Plan_askInlineSources_30 : decode b_Plan_askInlineSources 30 = .ok (.iconst (-1), 1) := by decide +kernel
theorem d_Plan_askInlineSources_31 : decode b_Plan_askInlineSources 31 = .ok (.if_icmp .eq 35, 3) := by decide +kernel
theorem d_Plan_askInlineSources_34 : decode b_Plan_askInlineSources 34 = .ok (.aload_n 0, 1) := by decide +kernel
theorem d_Plan_askInlineSources_35 : decode b_Plan_askInlineSources 35 = .ok (.getfield 29, 3) := by decide +kernel
theorem d_Plan_askInlineSources_38 : decode b_Plan_askInlineSources 38 = .ok (.getfield 77, 3) := by decide +kernel
theorem d_Plan_askInlineSources_41 : decode b_Plan_askInlineSources 41 = .ok (.iload 4, 2) := by decide +kernel
theorem d_Plan_askInlineSources_43 : decode b_Plan_askInlineSources 43 = .ok (.aaload, 1) := by decide +kernel
theorem d_Plan_askInlineSources_44 : decode b_Plan_askInlineSources 44 = .ok (.getfield 97, 3) := by decide +kernel
theorem d_Plan_askInlineSources_47 : decode b_Plan_askInlineSources 47 = .ok (.ifCond .ne 19, 3) := by decide +kernel
theorem d_Plan_askInlineSources_50 : decode b_Plan_askInlineSources 50 = .ok (.aload_n 0, 1) := by decide +kernel
theorem d_Plan_askInlineSources_51 : decode b_Plan_askInlineSources 51 = .ok (.getfield 25, 3) := by decide +kernel
theorem d_Plan_askInlineSources_54 : decode b_Plan_askInlineSources 54 = .ok (.iload 4, 2) := by decide +kernel
theorem d_Plan_askInlineSources_56 : decode b_Plan_askInlineSources 56 = .ok (.dup2, 1) := by decide +kernel
theorem d_Plan_askInlineSources_57 : decode b_Plan_askInlineSources 57 = .ok (.iaload, 1) := by decide +kernel
theorem d_Plan_askInlineSources_58 : decode b_Plan_askInlineSources 58 = .ok (.aload_n 0, 1) := by decide +kernel
theorem d_Plan_askInlineSources_59 : decode b_Plan_askInlineSources 59 = .ok (.getfield 25, 3) := by decide +kernel
theorem d_Plan_askInlineSources_62 : decode b_Plan_askInlineSources 62 = .ok (.iload_n 1, 1) := by decide +kernel
theorem d_Plan_askInlineSources_63 : decode b_Plan_askInlineSources 63 = .ok (.iaload, 1) := by decide +kernel
theorem d_Plan_askInlineSources_64 : decode b_Plan_askInlineSources 64 = .ok (.iadd, 1) := by decide +kernel
theorem d_Plan_askInlineSources_65 : decode b_Plan_askInlineSources 65 = .ok (.iastore, 1) := by decide +kernel
theorem d_Plan_askInlineSources_66 : decode b_Plan_askInlineSources 66 = .ok (.iinc 3 1, 3) := by decide +kernel
theorem d_Plan_askInlineSources_69 : decode b_Plan_askInlineSources 69 = .ok (.goto (-57), 3) := by decide +kernel
theorem d_Plan_askInlineSources_72 : decode b_Plan_askInlineSources 72 = .ok (.return_, 1) := by decide +kernel
theorem d_Plan_isUsedAs_0 : decode b_Plan_isUsedAs 0 = .ok (.aload_n 0, 1) := by decide +kernel
theorem d_Plan_isUsedAs_1 : decode b_Plan_isUsedAs 1 = .ok (.getfield 12, 3) := by decide +kernel
theorem d_Plan_isUsedAs_4 : decode b_Plan_isUsedAs 4 = .ok (.getfield 126, 3) := by decide +kernel
theorem d_Plan_isUsedAs_7 : decode b_Plan_isUsedAs 7 = .ok (.iload_n 1, 1) := by decide +kernel
theorem d_Plan_isUsedAs_8 : decode b_Plan_isUsedAs 8 = .ok (.baload, 1) := by decide +kernel
theorem d_Plan_isUsedAs_9 : decode b_Plan_isUsedAs 9 = .ok (.ifCond .eq 23, 3) := by decide +kernel
theorem d_Plan_isUsedAs_12 : decode b_Plan_isUsedAs 12 = .ok (.aload_n 0, 1) := by decide +kernel
theorem d_Plan_isUsedAs_13 : decode b_Plan_isUsedAs 13 = .ok (.getfield 29, 3) := by decide +kernel
theorem d_Plan_isUsedAs_16 : decode b_Plan_isUsedAs 16 = .ok (.getfield 77, 3) := by decide +kernel
theorem d_Plan_isUsedAs_19 : decode b_Plan_isUsedAs 19 = .ok (.iload_n 1, 1) := by decide +kernel
theorem d_Plan_isUsedAs_20 : decode b_Plan_isUsedAs 20 = .ok (.aaload, 1) := by decide +kernel
theorem d_Plan_isUsedAs_21 : decode b_Plan_isUsedAs 21 = .ok (.getfield 97, 3) := by decide +kernel
theorem d_Plan_isUsedAs_24 : decode b_Plan_isUsedAs 24 = .ok (.iload_n 2, 1) := by decide +kernel
theorem d_Plan_isUsedAs_25 : decode b_Plan_isUsedAs 25 = .ok (.if_icmp .ne 7, 3) := by decide +kernel
theorem d_Plan_isUsedAs_28 : decode b_Plan_isUsedAs 28 = .ok (.iconst 1, 1) := by decide +kernel
theorem d_Plan_isUsedAs_29 : decode b_Plan_isUsedAs 29 = .ok (.goto 4, 3) := by decide +kernel
theorem d_Plan_isUsedAs_32 : decode b_Plan_isUsedAs 32 = .ok (.iconst 0, 1) := by decide +kernel
theorem d_Plan_isUsedAs_33 : decode b_Plan_isUsedAs 33 = .ok (.ireturn, 1) := by decide +kernel
theorem d_Plan_usedCount_0 : decode b_Plan_usedCount 0 = .ok (.iconst 0, 1) := by decide +kernel
theorem d_Plan_usedCount_1 : decode b_Plan_usedCount 1 = .ok (.istore_n 1, 1) := by decide +kernel
theorem d_Plan_usedCount_2 : decode b_Plan_usedCount 2 = .ok (.iconst 0, 1) := by decide +kernel
theorem d_Plan_usedCount_3 : decode b_Plan_usedCount 3 = .ok (.istore_n 2, 1) := by decide +kernel
theorem d_Plan_usedCount_4 : decode b_Plan_usedCount 4 = .ok (.iload_n 2, 1) := by decide +kernel
theorem d_Plan_usedCount_5 : decode b_Plan_usedCount 5 = .ok (.bipush 8, 2) := by decide +kernel
theorem d_Plan_usedCount_7 : decode b_Plan_usedCount 7 = .ok (.if_icmp .ge 29, 3) := by decide +kernel
theorem d_Plan_usedCount_10 : decode b_Plan_usedCount 10 = .ok (.iload_n 1, 1) := by decide +kernel
theorem d_Plan_usedCount_11 : decode b_Plan_usedCount 11 = .ok (.aload_n 0, 1) := by decide +kernel
theorem d_Plan_usedCount_12 : decode b_Plan_usedCount 12 = .ok (.getfield 12, 3) := by decide +kernel
theorem d_Plan_usedCount_15 : decode b_Plan_usedCount 15 = .ok (.getfield 126, 3) := by decide +kernel
theorem d_Plan_usedCount_18 : decode b_Plan_usedCount 18 = .ok (.iload_n 2, 1) := by decide +kernel
theorem d_Plan_usedCount_19 : decode b_Plan_usedCount 19 = .ok (.baload, 1) := by decide +kernel
theorem d_Plan_usedCount_20 : decode b_Plan_usedCount 20 = .ok (.ifCond .eq 7, 3) := by decide +kernel
theorem d_Plan_usedCount_23 : decode b_Plan_usedCount 23 = .ok (.iconst 1, 1) := by decide +kernel
theorem d_Plan_usedCount_24 : decode b_Plan_usedCount 24 = .ok (.goto 4, 3) := by decide +kernel
theorem d_Plan_usedCount_27 : decode b_Plan_usedCount 27 = .ok (.iconst 0, 1) := by decide +kernel
theorem d_Plan_usedCount_28 : decode b_Plan_usedCount 28 = .ok (.iadd, 1) := by decide +kernel
theorem d_Plan_usedCount_29 : decode b_Plan_usedCount 29 = .ok (.istore_n 1, 1) := by decide +kernel
theorem d_Plan_usedCount_30 : decode b_Plan_usedCount 30 = .ok (.iinc 2 1, 3) := by decide +kernel
theorem d_Plan_usedCount_33 : decode b_Plan_usedCount 33 = .ok (.goto (-29), 3) := by decide +kernel
theorem d_Plan_usedCount_36 : decode b_Plan_usedCount 36 = .ok (.iload_n 1, 1) := by decide +kernel
theorem d_Plan_usedCount_37 : decode b_Plan_usedCount 37 = .ok (.ireturn, 1) := by decide +kernel
theorem d_Runner_init_0 : decode b_Runner_init 0 = .ok (.aload_n 0, 1) := by decide +kernel
theorem d_Runner_init_1 : decode b_Runner_init 1 = .ok (.invokespecial 3, 3) := by decide +kernel
theorem d_Runner_init_4 : decode b_Runner_init 4 = .ok (.aload_n 0, 1) := by decide +kernel
theorem d_Runner_init_5 : decode b_Runner_init 5 = .ok (.new 9, 3) := by decide +kernel
theorem d_Runner_init_8 : decode b_Runner_init 8 = .ok (.dup, 1) := by decide +kernel
theorem d_Runner_init_9 : decode b_Runner_init 9 = .ok (.invokespecial 11, 3) := by decide +kernel
theorem d_Runner_init_12 : decode b_Runner_init 12 = .ok (.putfield 12, 3) := by decide +kernel
theorem d_Runner_init_15 : decode b_Runner_init 15 = .ok (.aload_n 0, 1) := by decide +kernel
theorem d_Runner_init_16 : decode b_Runner_init 16 = .ok (.bipush 8, 2) := by decide +kernel
theorem d_Runner_init_18 : decode b_Runner_init 18 = .ok (.newarray .boolean, 2) := by decide +kernel
theorem d_Runner_init_20 : decode b_Runner_init 20 = .ok (.putfield 18, 3) := by decide +kernel
theorem d_Runner_init_23 : decode b_Runner_init 23 = .ok (.aload_n 0, 1) := by decide +kernel
theorem d_Runner_init_24 : decode b_Runner_init 24 = .ok (.bipush 8, 2) := by decide +kernel
theorem d_Runner_init_26 : decode b_Runner_init 26 = .ok (.bipush 88, 2) := by decide +kernel
theorem d_Runner_init_28 : decode b_Runner_init 28 = .ok (.multianewarray 22 2, 4) := by decide +kernel
theorem d_Runner_init_32 : decode b_Runner_init 32 = .ok (.putfield 24, 3) := by decide +kernel
theorem d_Runner_init_35 : decode b_Runner_init 35 = .ok (.aload_n 0, 1) := by decide +kernel
theorem d_Runner_init_36 : decode b_Runner_init 36 = .ok (.bipush 32, 2) := by decide +kernel
theorem d_Runner_init_38 : decode b_Runner_init 38 = .ok (.newarray .int, 2) := by decide +kernel
theorem d_Runner_init_40 : decode b_Runner_init 40 = .ok (.putfield 27, 3) := by decide +kernel
theorem d_Runner_init_43 : decode b_Runner_init 43 = .ok (.aload_n 0, 1) := by decide +kernel
theorem d_Runner_init_44 : decode b_Runner_init 44 = .ok (.aload_n 1, 1) := by decide +kernel
theorem d_Runner_init_45 : decode b_Runner_init 45 = .ok (.putfield 31, 3) := by decide +kernel
theorem d_Runner_init_48 : decode b_Runner_init 48 = .ok (.return_, 1) := by decide +kernel
theorem d_Runner_runSchedule_0 : decode b_Runner_runSchedule 0 = .ok (.aload_n 0, 1) := by decide +kernel
theorem d_Runner_runSchedule_1 : decode b_Runner_runSchedule 1 = .ok (.aload_n 1, 1) := by decide +kernel
theorem d_Runner_runSchedule_2 : decode b_Runner_runSchedule 2 = .ok (.iconst 1, 1) := by decide +kernel
theorem d_Runner_runSchedule_3 : decode b_Runner_runSchedule 3 = .ok (.invokevirtual 35, 3) := by decide +kernel
theorem d_Runner_runSchedule_6 : decode b_Runner_runSchedule 6 = .ok (.iconst 0, 1) := by decide +kernel
theorem d_Runner_runSchedule_7 : decode b_Runner_runSchedule 7 = .ok (.istore_n 2, 1) := by decide +kernel
theorem d_Runner_runSchedule_8 : decode b_Runner_runSchedule 8 = .ok (.iload_n 2, 1) := by decide +kernel
theorem d_Runner_runSchedule_9 : decode b_Runner_runSchedule 9 = .ok (.aload_n 0, 1) := by decide +kernel
theorem d_Runner_runSchedule_10 : decode b_Runner_runSchedule 10 = .ok (.getfield 31, 3) := by decide +kernel
theorem d_Runner_runSchedule_13 : decode b_Runner_runSchedule 13 = .ok (.invokevirtual 39, 3) := by decide +kernel
theorem d_Runner_runSchedule_16 : decode b_Runner_runSchedule 16 = .ok (.if_icmp .ge 29, 3) := by decide +kernel
theorem d_Runner_runSchedule_19 : decode b_Runner_runSchedule 19 = .ok (.aload_n 0, 1) := by decide +kernel
theorem d_Runner_runSchedule_20 : decode b_Runner_runSchedule 20 = .ok (.aload_n 0, 1) := by decide +kernel
theorem d_Runner_runSchedule_21 : decode b_Runner_runSchedule 21 = .ok (.getfield 31, 3) := by decide +kernel
theorem d_Runner_runSchedule_24 : decode b_Runner_runSchedule 24 = .ok (.iload_n 2, 1) := by decide +kernel
theorem d_Runner_runSchedule_25 : decode b_Runner_runSchedule 25 = .ok (.invokevirtual 45, 3) := by decide +kernel
theorem d_Runner_runSchedule_28 : decode b_Runner_runSchedule 28 = .ok (.aload_n 0, 1) := by decide +kernel
theorem d_Runner_runSchedule_29 : decode b_Runner_runSchedule 29 = .ok (.getfield 31, 3) := by decide +kernel
theorem d_Runner_runSchedule_32 : decode b_Runner_runSchedule 32 = .ok (.iload_n 2, 1) := by decide +kernel
theorem d_Runner_runSchedule_33 : decode b_Runner_runSchedule 33 = .ok (.invokevirtual 49, 3) := by decide +kernel
theorem d_Runner_runSchedule_36 : decode b_Runner_runSchedule 36 = .ok (.invokevirtual 52, 3) := by decide +kernel
theorem d_Runner_runSchedule_39 : decode b_Runner_runSchedule 39 = .ok (.iinc 2 1, 3) := by decide +kernel
theorem d_Runner_runSchedule_42 : decode b_Runner_runSchedule 42 = .ok (.goto (-34), 3) := by decide +kernel
theorem d_Runner_runSchedule_45 : decode b_Runner_runSchedule 45 = .ok (.aload_n 0, 1) := by decide +kernel
theorem d_Runner_runSchedule_46 : decode b_Runner_runSchedule 46 = .ok (.iconst 1, 1) := by decide +kernel
theorem d_Runner_runSchedule_47 : decode b_Runner_runSchedule 47 = .ok (.invokevirtual 56, 3) := by decide +kernel
theorem d_Runner_runSchedule_50 : decode b_Runner_runSchedule 50 = .ok (.return_, 1) := by decide +kernel
theorem d_Runner_runTile_0 : decode b_Runner_runTile 0 = .ok (.aload_n 0, 1) := by decide +kernel
theorem d_Runner_runTile_1 : decode b_Runner_runTile 1 = .ok (.getfield 12, 3) := by decide +kernel
theorem d_Runner_runTile_4 : decode b_Runner_runTile 4 = .ok (.aload_n 0, 1) := by decide +kernel
theorem d_Runner_runTile_5 : decode b_Runner_runTile 5 = .ok (.getfield 31, 3) := by decide +kernel
theorem d_Runner_runTile_8 : decode b_Runner_runTile 8 = .ok (.iload_n 1, 1) := by decide +kernel
theorem d_Runner_runTile_9 : decode b_Runner_runTile 9 = .ok (.iload_n 2, 1) := by decide +kernel
theorem d_Runner_runTile_10 : decode b_Runner_runTile 10 = .ok (.invokevirtual 60, 3) := by decide +kernel
theorem d_Runner_runTile_13 : decode b_Runner_runTile 13 = .ok (.aload_n 0, 1) := by decide +kernel
theorem d_Runner_runTile_14 : decode b_Runner_runTile 14 = .ok (.aload_n 0, 1) := by decide +kernel
theorem d_Runner_runTile_15 : decode b_Runner_runTile 15 = .ok (.getfield 12, 3) := by decide +kernel
theorem d_Runner_runTile_18 : decode b_Runner_runTile 18 = .ok (.iconst 2, 1) := by decide +kernel
theorem d_Runner_runTile_19 : decode b_Runner_runTile 19 = .ok (.invokevirtual 35, 3) := by decide +kernel
theorem d_Runner_runTile_22 : decode b_Runner_runTile 22 = .ok (.iload_n 1, 1) := by decide +kernel
theorem d_Runner_runTile_23 : decode b_Runner_runTile 23 = .ok (.istore_n 3, 1) := by decide +kernel
theorem d_Runner_runTile_24 : decode b_Runner_runTile 24 = .ok (.iload_n 3, 1) := by decide +kernel
theorem d_Runner_runTile_25 : decode b_Runner_runTile 25 = .ok (.iload_n 2, 1) := by decide +kernel
theorem d_Runner_runTile_26 : decode b_Runner_runTile 26 = .ok (.if_icmp .gt 27, 3) := by decide +kernel
theorem d_Runner_runTile_29 : decode b_Runner_runTile 29 = .ok (.aload_n 0, 1) := by decide +kernel
theorem d_Runner_runTile_30 : decode b_Runner_runTile 30 = .ok (.getfield 27, 3) := by decide +kernel
theorem d_Runner_runTile_33 : decode b_Runner_runTile 33 = .ok (.iload_n 3, 1) := by decide +kernel
theorem d_Runner_runTile_34 : decode b_Runner_runTile 34 = .ok (.aload_n 0, 1) := by decide +kernel
theorem d_Runner_runTile_35 : decode b_Runner_runTile 35 = .ok (.aload_n 0, 1) := by decide +kernel
theorem d_Runner_runTile_36 : decode b_Runner_runTile 36 = .ok (.getfield 31, 3) := by decide +kernel
theorem d_Runner_runTile_39 : decode b_Runner_runTile 39 = .ok (.getfield 64, 3) := by decide +kernel
theorem d_Runner_runTile_42 : decode b_Runner_runTile 42 = .ok (.iload_n 3, 1) := by decide +kernel
theorem d_Runner_runTile_43 : decode b_Runner_runTile 43 = .ok (.invokevirtual 68, 3) := by decide +kernel
theorem d_Runner_runTile_46 : decode b_Runner_runTile 46 = .ok (.iastore, 1) := by decide +kernel
theorem d_Runner_runTile_47 : decode b_Runner_runTile 47 = .ok (.iinc 3 1, 3) := by decide +kernel
theorem d_Runner_runTile_50 : decode b_Runner_runTile 50 = .ok (.goto (-26), 3) := by decide +kernel
theorem d_Runner_runTile_53 : decode b_Runner_runTile 53 = .ok (.aload_n 0, 1) := by decide +kernel
theorem d_Runner_runTile_54 : decode b_Runner_runTile 54 = .ok (.iconst 2, 1) := by decide +kernel
theorem d_Runner_runTile_55 : decode b_Runner_runTile 55 = .ok (.invokevirtual 56, 3) := by decide +kernel
theorem d_Runner_runTile_58 : decode b_Runner_runTile 58 = .ok (.return_, 1) := by decide +kernel
theorem d_Runner_keep_0 : decode b_Runner_keep 0 = .ok (.iconst 0, 1) := by decide +kernel
theorem d_Runner_keep_1 : decode b_Runner_keep 1 = .ok (.istore_n 3, 1) := by decide +kernel
theorem d_Runner_keep_2 : decode b_Runner_keep 2 = .ok (.iload_n 3, 1) := by decide +kernel
theorem d_Runner_keep_3 : decode b_Runner_keep 3 = .ok (.aload_n 0, 1) := by decide +kernel
theorem d_Runner_keep_4 : decode b_Runner_keep 4 = .ok (.getfield 31, 3) := by decide +kernel
theorem d_Runner_keep_7 : decode b_Runner_keep 7 = .ok (.getfield 64, 3) := by decide +kernel
theorem d_Runner_keep_10 : decode b_Runner_keep 10 = .ok (.if_icmp .ge 88, 3) := by decide +kernel
theorem d_Runner_keep_13 : decode b_Runner_keep 13 = .ok (.aload_n 1, 1) := by decide +kernel
theorem d_Runner_keep_14 : decode b_Runner_keep 14 = .ok (.getfield 72, 3) := by decide +kernel
theorem d_Runner_keep_17 : decode b_Runner_keep 17 = .ok (.iload_n 3, 1) := by decide +kernel
theorem d_Runner_keep_18 : decode b_Runner_keep 18 = .ok (.baload, 1) := by decide +kernel
theorem d_Runner_keep_19 : decode b_Runner_keep 19 = .ok (.ifCond .eq 73, 3) := by decide +kernel
theorem d_Runner_keep_22 : decode b_Runner_keep 22 = .ok (.aload_n 0, 1) := by decide +kernel
theorem d_Runner_keep_23 : decode b_Runner_keep 23 = .ok (.getfield 31, 3) := by decide +kernel
theorem d_Runner_keep_26 : decode b_Runner_keep 26 = .ok (.getfield 75, 3) := by decide +kernel
theorem d_Runner_keep_29 : decode b_Runner_keep 29 = .ok (.iload_n 3, 1) := by decide +kernel
theorem d_Runner_keep_30 : decode b_Runner_keep 30 = .ok (.aaload, 1) := by decide +kernel
theorem d_Runner_keep_31 : decode b_Runner_keep 31 = .ok (.getfield 79, 3) := by decide +kernel
theorem d_Runner_keep_34 : decode b_Runner_keep 34 = .ok (.iload_n 2, 1) := by decide +kernel
theorem d_Runner_keep_35 : decode b_Runner_keep 35 = .ok (.if_icmp .eq 6, 3) := by decide +kernel
theorem d_Runner_keep_38 : decode b_Runner_keep 38 = .ok (.goto 54, 3) := by decide +kernel
theorem d_Runner_keep_41 : decode b_Runner_keep 41 = .ok (.aload_n 1, 1) := by decide +kernel
theorem d_Runner_keep_42 : decode b_Runner_keep 42 = .ok (.getfield 84, 3) := by decide +kernel
theorem d_Runner_keep_45 : decode b_Runner_keep 45 = .ok (.iload_n 3, 1) := by decide +kernel
theorem d_Runner_keep_46 : decode b_Runner_keep 46 = .ok (.iaload, 1) := by decide +kernel
theorem d_Runner_keep_47 : decode b_Runner_keep 47 = .ok (.istore 4, 2) := by decide +kernel
theorem d_Runner_keep_49 : decode b_Runner_keep 49 = .ok (.iload 4, 2) := by decide +kernel
theorem d_Runner_keep_51 : decode b_Runner_keep 51 = .ok (.aload_n 1, 1) := by decide +kernel
theorem d_Runner_keep_52 : decode b_Runner_keep 52 = .ok (.getfield 87, 3) := by decide +kernel
theorem d_Runner_keep_55 : decode b_Runner_keep 55 = .ok (.iload_n 3, 1) := by decide +kernel
theorem d_Runner_keep_56 : decode b_Runner_keep 56 = .ok (.iaload, 1) := by decide +kernel
theorem d_Runner_keep_57 : decode b_Runner_keep 57 = .ok (.if_icmp .gt 28, 3) := by decide +kernel
theorem d_Runner_keep_60 : decode b_Runner_keep 60 = .ok (.aload_n 0, 1) := by decide +kernel
theorem d_Runner_keep_61 : decode b_Runner_keep 61 = .ok (.getfield 24, 3) := by decide +kernel
theorem d_Runner_keep_64 : decode b_Runner_keep 64 = .ok (.iload_n 3, 1) := by decide +kernel
theorem d_Runner_keep_65 : decode b_Runner_keep 65 = .ok (.aaload, 1) := by decide +kernel
theorem d_Runner_keep_66 : decode b_Runner_keep 66 = .ok (.iload 4, 2) := by decide +kernel
theorem d_Runner_keep_68 : decode b_Runner_keep 68 = .ok (.bipush 28, 2) := by decide +kernel
theorem d_Runner_keep_70 : decode b_Runner_keep 70 = .ok (.iadd, 1) := by decide +kernel
theorem d_Runner_keep_71 : decode b_Runner_keep 71 = .ok (.aload_n 0, 1) := by decide +kernel
theorem d_Runner_keep_72 : decode b_Runner_keep 72 = .ok (.iload_n 3, 1) := by decide +kernel
theorem d_Runner_keep_73 : decode b_Runner_keep 73 = .ok (.iload 4, 2) := by decide +kernel
theorem d_Runner_keep_75 : decode b_Runner_keep 75 = .ok (.invokevirtual 68, 3) := by decide +kernel
theorem d_Runner_keep_78 : decode b_Runner_keep 78 = .ok (.iastore, 1) := by decide +kernel
theorem d_Runner_keep_79 : decode b_Runner_keep 79 = .ok (.iinc 4 1, 3) := by decide +kernel
theorem d_Runner_keep_82 : decode b_Runner_keep 82 = .ok (.goto (-33), 3) := by decide +kernel
theorem d_Runner_keep_85 : decode b_Runner_keep 85 = .ok (.aload_n 0, 1) := by decide +kernel
theorem d_Runner_keep_86 : decode b_Runner_keep 86 = .ok (.getfield 18, 3) := by decide +kernel
theorem d_Runner_keep_89 : decode b_Runner_keep 89 = .ok (.iload_n 3, 1) := by decide +kernel
theorem d_Runner_keep_90 : decode b_Runner_keep 90 = .ok (.iconst 1, 1) := by decide +kernel
theorem d_Runner_keep_91 : decode b_Runner_keep 91 = .ok (.bastore, 1) := by decide +kernel
theorem d_Runner_keep_92 : decode b_Runner_keep 92 = .ok (.iinc 3 1, 3) := by decide +kernel
theorem d_Runner_keep_95 : decode b_Runner_keep 95 = .ok (.goto (-93), 3) := by decide +kernel
theorem d_Runner_keep_98 : decode b_Runner_keep 98 = .ok (.return_, 1) := by decide +kernel
theorem d_Runner_release_0 : decode b_Runner_release 0 = .ok (.iconst 0, 1) := by decide +kernel
theorem d_Runner_release_1 : decode b_Runner_release 1 = .ok (.istore_n 2, 1) := by decide +kernel
theorem d_Runner_release_2 : decode b_Runner_release 2 = .ok (.iload_n 2, 1) := by decide +kernel
theorem d_Runner_release_3 : decode b_Runner_release 3 = .ok (.aload_n 0, 1) := by decide +kernel
theorem d_Runner_release_4 : decode b_Runner_release 4 = .ok (.getfield 31, 3) := by decide +kernel
theorem d_Runner_release_7 : decode b_Runner_release 7 = .ok (.getfield 64, 3) := by decide +kernel
theorem d_Runner_release_10 : decode b_Runner_release 10 = .ok (.if_icmp .ge 45, 3) := by decide +kernel
theorem d_Runner_release_13 : decode b_Runner_release 13 = .ok (.aload_n 0, 1) := by decide +kernel
theorem d_Runner_release_14 : decode b_Runner_release 14 = .ok (.getfield 18, 3) := by decide +kernel
theorem d_Runner_release_17 : decode b_Runner_release 17 = .ok (.iload_n 2, 1) := by decide +kernel
theorem d_Runner_release_18 : decode b_Runner_release 18 = .ok (.aload_n 0, 1) := by decide +kernel
theorem d_Runner_release_19 : decode b_Runner_release 19 = .ok (.getfield 18, 3) := by decide +kernel
theorem d_Runner_release_22 : decode b_Runner_release 22 = .ok (.iload_n 2, 1) := by decide +kernel
theorem d_Runner_release_23 : decode b_Runner_release 23 = .ok (.baload, 1) := by decide +kernel
theorem d_Runner_release_24 : decode b_Runner_release 24 = .ok (.ifCond .eq 23, 3) := by decide +kernel
theorem d_Runner_release_27 : decode b_Runner_release 27 = .ok (.aload_n 0, 1) := by decide +kernel
theorem d_Runner_release_28 : decode b_Runner_release 28 = .ok (.getfield 31, 3) := by decide +kernel
theorem d_Runner_release_31 : decode b_Runner_release 31 = .ok (.getfield 75, 3) := by decide +kernel
theorem d_Runner_release_34 : decode b_Runner_release 34 = .ok (.iload_n 2, 1) := by decide +kernel
