theorem dX4_allowGoingOver_40 : decode cX4_allowGoingOver 40 = .ok (.getfield 16, 3) := by decide +kernel
theorem dX4_allowGoingOver_43 : decode cX4_allowGoingOver 43 = .ok (.iload_n 1, 1) := by decide +kernel
theorem dX4_allowGoingOver_44 : decode cX4_allowGoingOver 44 = .ok (.aaload, 1) := by decide +kernel
theorem dX4_allowGoingOver_45 : decode cX4_allowGoingOver 45 = .ok (.iload_n 3, 1) := by decide +kernel
theorem dX4_allowGoingOver_46 : decode cX4_allowGoingOver 46 = .ok (.iaload, 1) := by decide +kernel
theorem dX4_allowGoingOver_47 : decode cX4_allowGoingOver 47 = .ok (.iadd, 1) := by decide +kernel
theorem dX4_allowGoingOver_48 : decode cX4_allowGoingOver 48 = .ok (.invokestatic 42, 3) := by decide +kernel
theorem dX4_allowGoingOver_51 : decode cX4_allowGoingOver 51 = .ok (.iastore, 1) := by decide +kernel
theorem dX4_allowGoingOver_52 : decode cX4_allowGoingOver 52 = .ok (.iinc 3 1, 3) := by decide +kernel
theorem dX4_allowGoingOver_55 : decode cX4_allowGoingOver 55 = .ok (.goto (-45), 3) := by decide +kernel
theorem dX4_allowGoingOver_58 : decode cX4_allowGoingOver 58 = .ok (.iinc 2 1, 3) := by decide +kernel
theorem dX4_allowGoingOver_61 : decode cX4_allowGoingOver 61 = .ok (.goto (-59), 3) := by decide +kernel
theorem dX4_allowGoingOver_64 : decode cX4_allowGoingOver 64 = .ok (.return_, 1) := by decide +kernel
theorem dX5_init_0 : decode cX5_init 0 = .ok (.aload_n 0, 1) := by decide +kernel
theorem dX5_init_1 : decode cX5_init 1 = .ok (.invokespecial 1, 3) := by decide +kernel
theorem dX5_init_4 : decode cX5_init 4 = .ok (.aload_n 0, 1) := by decide +kernel
theorem dX5_init_5 : decode cX5_init 5 = .ok (.new 7, 3) := by decide +kernel
theorem dX5_init_8 : decode cX5_init 8 = .ok (.dup, 1) := by decide +kernel
theorem dX5_init_9 : decode cX5_init 9 = .ok (.invokespecial 9, 3) := by decide +kernel
theorem dX5_init_12 : decode cX5_init 12 = .ok (.putfield 10, 3) := by decide +kernel
theorem dX5_init_15 : decode cX5_init 15 = .ok (.aload_n 0, 1) := by decide +kernel
theorem dX5_init_16 : decode cX5_init 16 = .ok (.iconst 2, 1) := by decide +kernel
theorem dX5_init_17 : decode cX5_init 17 = .ok (.anewarray 7, 3) := by decide +kernel
theorem dX5_init_20 : decode cX5_init 20 = .ok (.putfield 16, 3) := by decide +kernel
theorem dX5_init_23 : decode cX5_init 23 = .ok (.aload_n 0, 1) := by decide +kernel
theorem dX5_init_24 : decode cX5_init 24 = .ok (.iconst 2, 1) := by decide +kernel
theorem dX5_init_25 : decode cX5_init 25 = .ok (.newarray .boolean, 2) := by decide +kernel
theorem dX5_init_27 : decode cX5_init 27 = .ok (.putfield 20, 3) := by decide +kernel
theorem dX5_init_30 : decode cX5_init 30 = .ok (.aload_n 0, 1) := by decide +kernel
theorem dX5_init_31 : decode cX5_init 31 = .ok (.new 24, 3) := by decide +kernel
theorem dX5_init_34 : decode cX5_init 34 = .ok (.dup, 1) := by decide +kernel
theorem dX5_init_35 : decode cX5_init 35 = .ok (.invokespecial 26, 3) := by decide +kernel
theorem dX5_init_38 : decode cX5_init 38 = .ok (.putfield 27, 3) := by decide +kernel
theorem dX5_init_41 : decode cX5_init 41 = .ok (.aload_n 0, 1) := by decide +kernel
theorem dX5_init_42 : decode cX5_init 42 = .ok (.new 31, 3) := by decide +kernel
theorem dX5_init_45 : decode cX5_init 45 = .ok (.dup, 1) := by decide +kernel
theorem dX5_init_46 : decode cX5_init 46 = .ok (.invokespecial 33, 3) := by decide +kernel
theorem dX5_init_49 : decode cX5_init 49 = .ok (.putfield 34, 3) := by decide +kernel
theorem dX5_init_52 : decode cX5_init 52 = .ok (.aload_n 0, 1) := by decide +kernel
theorem dX5_init_53 : decode cX5_init 53 = .ok (.new 38, 3) := by decide +kernel
theorem dX5_init_56 : decode cX5_init 56 = .ok (.dup, 1) := by decide +kernel
theorem dX5_init_57 : decode cX5_init 57 = .ok (.invokespecial 40, 3) := by decide +kernel
theorem dX5_init_60 : decode cX5_init 60 = .ok (.putfield 41, 3) := by decide +kernel
theorem dX5_init_63 : decode cX5_init 63 = .ok (.aload_n 0, 1) := by decide +kernel
theorem dX5_init_64 : decode cX5_init 64 = .ok (.new 45, 3) := by decide +kernel
theorem dX5_init_67 : decode cX5_init 67 = .ok (.dup, 1) := by decide +kernel
theorem dX5_init_68 : decode cX5_init 68 = .ok (.invokespecial 47, 3) := by decide +kernel
theorem dX5_init_71 : decode cX5_init 71 = .ok (.putfield 48, 3) := by decide +kernel
theorem dX5_init_74 : decode cX5_init 74 = .ok (.iconst 0, 1) := by decide +kernel
theorem dX5_init_75 : decode cX5_init 75 = .ok (.istore_n 1, 1) := by decide +kernel
theorem dX5_init_76 : decode cX5_init 76 = .ok (.iload_n 1, 1) := by decide +kernel
theorem dX5_init_77 : decode cX5_init 77 = .ok (.iconst 2, 1) := by decide +kernel
theorem dX5_init_78 : decode cX5_init 78 = .ok (.if_icmp .ge 22, 3) := by decide +kernel
theorem dX5_init_81 : decode cX5_init 81 = .ok (.aload_n 0, 1) := by decide +kernel
theorem dX5_init_82 : decode cX5_init 82 = .ok (.getfield 16, 3) := by decide +kernel
theorem dX5_init_85 : decode cX5_init 85 = .ok (.iload_n 1, 1) := by decide +kernel
theorem dX5_init_86 : decode cX5_init 86 = .ok (.new 7, 3) := by decide +kernel
theorem dX5_init_89 : decode cX5_init 89 = .ok (.dup, 1) := by decide +kernel
theorem dX5_init_90 : decode cX5_init 90 = .ok (.invokespecial 9, 3) := by decide +kernel
theorem dX5_init_93 : decode cX5_init 93 = .ok (.aastore, 1) := by decide +kernel
theorem dX5_init_94 : decode cX5_init 94 = .ok (.iinc 1 1, 3) := by decide +kernel
theorem dX5_init_97 : decode cX5_init 97 = .ok (.goto (-21), 3) := by decide +kernel
theorem dX5_init_100 : decode cX5_init 100 = .ok (.return_, 1) := by decide +kernel
theorem dX5_height_0 : decode cX5_height 0 = .ok (.iload_n 1, 1) := by decide +kernel
theorem dX5_height_1 : decode cX5_height 1 = .ok (.invokestatic 52, 3) := by decide +kernel
theorem dX5_height_4 : decode cX5_height 4 = .ok (.ifCond .ne 13, 3) := by decide +kernel
theorem dX5_height_7 : decode cX5_height 7 = .ok (.new 56, 3) := by decide +kernel
theorem dX5_height_10 : decode cX5_height 10 = .ok (.dup, 1) := by decide +kernel
theorem dX5_height_11 : decode cX5_height 11 = .ok (.ldc 58, 2) := by decide +kernel
theorem dX5_height_13 : decode cX5_height 13 = .ok (.invokespecial 60, 3) := by decide +kernel
theorem dX5_height_16 : decode cX5_height 16 = .ok (.athrow, 1) := by decide +kernel
theorem dX5_height_17 : decode cX5_height 17 = .ok (.iload_n 2, 1) := by decide +kernel
theorem dX5_height_18 : decode cX5_height 18 = .ok (.ifCond .lt 9, 3) := by decide +kernel
theorem dX5_height_21 : decode cX5_height 21 = .ok (.iload_n 2, 1) := by decide +kernel
theorem dX5_height_22 : decode cX5_height 22 = .ok (.bipush 9, 2) := by decide +kernel
theorem dX5_height_24 : decode cX5_height 24 = .ok (.if_icmp .le 13, 3) := by decide +kernel
theorem dX5_height_27 : decode cX5_height 27 = .ok (.new 63, 3) := by decide +kernel
theorem dX5_height_30 : decode cX5_height 30 = .ok (.dup, 1) := by decide +kernel
theorem dX5_height_31 : decode cX5_height 31 = .ok (.ldc 65, 2) := by decide +kernel
theorem dX5_height_33 : decode cX5_height 33 = .ok (.invokespecial 67, 3) := by decide +kernel
theorem dX5_height_36 : decode cX5_height 36 = .ok (.athrow, 1) := by decide +kernel
theorem dX5_height_37 : decode cX5_height 37 = .ok (.aload_n 0, 1) := by decide +kernel
theorem dX5_height_38 : decode cX5_height 38 = .ok (.getfield 27, 3) := by decide +kernel
theorem dX5_height_41 : decode cX5_height 41 = .ok (.aload_n 0, 1) := by decide +kernel
theorem dX5_height_42 : decode cX5_height 42 = .ok (.getfield 10, 3) := by decide +kernel
theorem dX5_height_45 : decode cX5_height 45 = .ok (.invokevirtual 68, 3) := by decide +kernel
theorem dX5_height_48 : decode cX5_height 48 = .ok (.aload_n 0, 1) := by decide +kernel
theorem dX5_height_49 : decode cX5_height 49 = .ok (.getfield 10, 3) := by decide +kernel
theorem dX5_height_52 : decode cX5_height 52 = .ok (.getfield 72, 3) := by decide +kernel
theorem dX5_height_55 : decode cX5_height 55 = .ok (.iload_n 1, 1) := by decide +kernel
theorem dX5_height_56 : decode cX5_height 56 = .ok (.iaload, 1) := by decide +kernel
theorem dX5_height_57 : decode cX5_height 57 = .ok (.istore_n 3, 1) := by decide +kernel
theorem dX5_height_58 : decode cX5_height 58 = .ok (.aload_n 0, 1) := by decide +kernel
theorem dX5_height_59 : decode cX5_height 59 = .ok (.getfield 10, 3) := by decide +kernel
theorem dX5_height_62 : decode cX5_height 62 = .ok (.getfield 72, 3) := by decide +kernel
theorem dX5_height_65 : decode cX5_height 65 = .ok (.iload_n 1, 1) := by decide +kernel
theorem dX5_height_66 : decode cX5_height 66 = .ok (.iload_n 2, 1) := by decide +kernel
theorem dX5_height_67 : decode cX5_height 67 = .ok (.iastore, 1) := by decide +kernel
theorem dX5_height_68 : decode cX5_height 68 = .ok (.iload_n 3, 1) := by decide +kernel
theorem dX5_height_69 : decode cX5_height 69 = .ok (.ireturn, 1) := by decide +kernel
theorem dX5_player_0 : decode cX5_player 0 = .ok (.iload_n 1, 1) := by decide +kernel
theorem dX5_player_1 : decode cX5_player 1 = .ok (.invokestatic 52, 3) := by decide +kernel
theorem dX5_player_4 : decode cX5_player 4 = .ok (.ifCond .ne 13, 3) := by decide +kernel
theorem dX5_player_7 : decode cX5_player 7 = .ok (.new 56, 3) := by decide +kernel
theorem dX5_player_10 : decode cX5_player 10 = .ok (.dup, 1) := by decide +kernel
theorem dX5_player_11 : decode cX5_player 11 = .ok (.ldc 58, 2) := by decide +kernel
theorem dX5_player_13 : decode cX5_player 13 = .ok (.invokespecial 60, 3) := by decide +kernel
theorem dX5_player_16 : decode cX5_player 16 = .ok (.athrow, 1) := by decide +kernel
theorem dX5_player_17 : decode cX5_player 17 = .ok (.iload_n 2, 1) := by decide +kernel
theorem dX5_player_18 : decode cX5_player 18 = .ok (.ifCond .lt 10, 3) := by decide +kernel
theorem dX5_player_21 : decode cX5_player 21 = .ok (.iload_n 2, 1) := by decide +kernel
theorem dX5_player_22 : decode cX5_player 22 = .ok (.sipush 200, 3) := by decide +kernel
theorem dX5_player_25 : decode cX5_player 25 = .ok (.if_icmp .le 13, 3) := by decide +kernel
theorem dX5_player_28 : decode cX5_player 28 = .ok (.new 63, 3) := by decide +kernel
theorem dX5_player_31 : decode cX5_player 31 = .ok (.dup, 1) := by decide +kernel
theorem dX5_player_32 : decode cX5_player 32 = .ok (.ldc 76, 2) := by decide +kernel
theorem dX5_player_34 : decode cX5_player 34 = .ok (.invokespecial 67, 3) := by decide +kernel
theorem dX5_player_37 : decode cX5_player 37 = .ok (.athrow, 1) := by decide +kernel
theorem dX5_player_38 : decode cX5_player 38 = .ok (.aload_n 0, 1) := by decide +kernel
theorem dX5_player_39 : decode cX5_player 39 = .ok (.getfield 10, 3) := by decide +kernel
theorem dX5_player_42 : decode cX5_player 42 = .ok (.getfield 78, 3) := by decide +kernel
theorem dX5_player_45 : decode cX5_player 45 = .ok (.iconst 4, 1) := by decide +kernel
theorem dX5_player_46 : decode cX5_player 46 = .ok (.if_icmp .lt 13, 3) := by decide +kernel
theorem dX5_player_49 : decode cX5_player 49 = .ok (.new 82, 3) := by decide +kernel
theorem dX5_player_52 : decode cX5_player 52 = .ok (.dup, 1) := by decide +kernel
theorem dX5_player_53 : decode cX5_player 53 = .ok (.ldc 84, 2) := by decide +kernel
theorem dX5_player_55 : decode cX5_player 55 = .ok (.invokespecial 86, 3) := by decide +kernel
theorem dX5_player_58 : decode cX5_player 58 = .ok (.athrow, 1) := by decide +kernel
theorem dX5_player_59 : decode cX5_player 59 = .ok (.aload_n 0, 1) := by decide +kernel
theorem dX5_player_60 : decode cX5_player 60 = .ok (.getfield 27, 3) := by decide +kernel
theorem dX5_player_63 : decode cX5_player 63 = .ok (.aload_n 0, 1) := by decide +kernel
theorem dX5_player_64 : decode cX5_player 64 = .ok (.getfield 10, 3) := by decide +kernel
theorem dX5_player_67 : decode cX5_player 67 = .ok (.invokevirtual 68, 3) := by decide +kernel
theorem dX5_player_70 : decode cX5_player 70 = .ok (.aload_n 0, 1) := by decide +kernel
theorem dX5_player_71 : decode cX5_player 71 = .ok (.getfield 10, 3) := by decide +kernel
theorem dX5_player_74 : decode cX5_player 74 = .ok (.iload_n 1, 1) := by decide +kernel
theorem dX5_player_75 : decode cX5_player 75 = .ok (.iload_n 2, 1) := by decide +kernel
theorem dX5_player_76 : decode cX5_player 76 = .ok (.invokevirtual 87, 3) := by decide +kernel
theorem dX5_player_79 : decode cX5_player 79 = .ok (.ireturn, 1) := by decide +kernel
theorem dX5_set_0 : decode cX5_set 0 = .ok (.iload_n 1, 1) := by decide +kernel
theorem dX5_set_1 : decode cX5_set 1 = .ok (.invokestatic 91, 3) := by decide +kernel
theorem dX5_set_4 : decode cX5_set 4 = .ok (.ifCond .ne 13, 3) := by decide +kernel
theorem dX5_set_7 : decode cX5_set 7 = .ok (.new 56, 3) := by decide +kernel
theorem dX5_set_10 : decode cX5_set 10 = .ok (.dup, 1) := by decide +kernel
theorem dX5_set_11 : decode cX5_set 11 = .ok (.ldc 94, 2) := by decide +kernel
theorem dX5_set_13 : decode cX5_set 13 = .ok (.invokespecial 60, 3) := by decide +kernel
theorem dX5_set_16 : decode cX5_set 16 = .ok (.athrow, 1) := by decide +kernel
theorem dX5_set_17 : decode cX5_set 17 = .ok (.iload_n 2, 1) := by decide +kernel
theorem dX5_set_18 : decode cX5_set 18 = .ok (.getstatic 96, 3) := by decide +kernel
theorem dX5_set_21 : decode cX5_set 21 = .ok (.iload_n 1, 1) := by decide +kernel
theorem dX5_set_22 : decode cX5_set 22 = .ok (.iaload, 1) := by decide +kernel
theorem dX5_set_23 : decode cX5_set 23 = .ok (.if_icmp .lt 12, 3) := by decide +kernel
theorem dX5_set_26 : decode cX5_set 26 = .ok (.iload_n 2, 1) := by decide +kernel
theorem dX5_set_27 : decode cX5_set 27 = .ok (.getstatic 99, 3) := by decide +kernel
theorem dX5_set_30 : decode cX5_set 30 = .ok (.iload_n 1, 1) := by decide +kernel
theorem dX5_set_31 : decode cX5_set 31 = .ok (.iaload, 1) := by decide +kernel
theorem dX5_set_32 : decode cX5_set 32 = .ok (.if_icmp .le 13, 3) := by decide +kernel
theorem dX5_set_35 : decode cX5_set 35 = .ok (.new 63, 3) := by decide +kernel
theorem dX5_set_38 : decode cX5_set 38 = .ok (.dup, 1) := by decide +kernel
theorem dX5_set_39 : decode cX5_set 39 = .ok (.ldc 102, 2) := by decide +kernel
theorem dX5_set_41 : decode cX5_set 41 = .ok (.invokespecial 67, 3) := by decide +kernel
theorem dX5_set_44 : decode cX5_set 44 = .ok (.athrow, 1) := by decide +kernel
theorem dX5_set_45 : decode cX5_set 45 = .ok (.aload_n 0, 1) := by decide +kernel
theorem dX5_set_46 : decode cX5_set 46 = .ok (.getfield 27, 3) := by decide +kernel
theorem dX5_set_49 : decode cX5_set 49 = .ok (.aload_n 0, 1) := by decide +kernel
theorem dX5_set_50 : decode cX5_set 50 = .ok (.getfield 10, 3) := by decide +kernel
theorem dX5_set_53 : decode cX5_set 53 = .ok (.invokevirtual 68, 3) := by decide +kernel
theorem dX5_set_56 : decode cX5_set 56 = .ok (.aload_n 0, 1) := by decide +kernel
theorem dX5_set_57 : decode cX5_set 57 = .ok (.getfield 10, 3) := by decide +kernel
theorem dX5_set_60 : decode cX5_set 60 = .ok (.getfield 104, 3) := by decide +kernel
theorem dX5_set_63 : decode cX5_set 63 = .ok (.iload_n 1, 1) := by decide +kernel
theorem dX5_set_64 : decode cX5_set 64 = .ok (.iaload, 1) := by decide +kernel
theorem dX5_set_65 : decode cX5_set 65 = .ok (.istore_n 3, 1) := by decide +kernel
theorem dX5_set_66 : decode cX5_set 66 = .ok (.aload_n 0, 1) := by decide +kernel
theorem dX5_set_67 : decode cX5_set 67 = .ok (.getfield 10, 3) := by decide +kernel
theorem dX5_set_70 : decode cX5_set 70 = .ok (.getfield 104, 3) := by decide +kernel
theorem dX5_set_73 : decode cX5_set 73 = .ok (.iload_n 1, 1) := by decide +kernel
theorem dX5_set_74 : decode cX5_set 74 = .ok (.iload_n 2, 1) := by decide +kernel
theorem dX5_set_75 : decode cX5_set 75 = .ok (.iastore, 1) := by decide +kernel
theorem dX5_set_76 : decode cX5_set 76 = .ok (.iload_n 3, 1) := by decide +kernel
theorem dX5_set_77 : decode cX5_set 77 = .ok (.ireturn, 1) := by decide +kernel
theorem dX5_rest_0 : decode cX5_rest 0 = .ok (.aload_n 0, 1) := by decide +kernel
theorem dX5_rest_1 : decode cX5_rest 1 = .ok (.getfield 10, 3) := by decide +kernel
theorem dX5_rest_4 : decode cX5_rest 4 = .ok (.invokevirtual 107, 3) := by decide +kernel
theorem dX5_rest_7 : decode cX5_rest 7 = .ok (.ifCond .ne 13, 3) := by decide +kernel
theorem dX5_rest_10 : decode cX5_rest 10 = .ok (.new 82, 3) := by decide +kernel
theorem dX5_rest_13 : decode cX5_rest 13 = .ok (.dup, 1) := by decide +kernel
theorem dX5_rest_14 : decode cX5_rest 14 = .ok (.ldc 111, 2) := by decide +kernel
theorem dX5_rest_16 : decode cX5_rest 16 = .ok (.invokespecial 86, 3) := by decide +kernel
theorem dX5_rest_19 : decode cX5_rest 19 = .ok (.athrow, 1) := by decide +kernel
theorem dX5_rest_20 : decode cX5_rest 20 = .ok (.aload_n 0, 1) := by decide +kernel
theorem dX5_rest_21 : decode cX5_rest 21 = .ok (.getfield 27, 3) := by decide +kernel
theorem dX5_rest_24 : decode cX5_rest 24 = .ok (.aload_n 0, 1) := by decide +kernel
theorem dX5_rest_25 : decode cX5_rest 25 = .ok (.getfield 10, 3) := by decide +kernel
theorem dX5_rest_28 : decode cX5_rest 28 = .ok (.invokevirtual 68, 3) := by decide +kernel
theorem dX5_rest_31 : decode cX5_rest 31 = .ok (.aload_n 0, 1) := by decide +kernel
theorem dX5_rest_32 : decode cX5_rest 32 = .ok (.getfield 10, 3) := by decide +kernel
theorem dX5_rest_35 : decode cX5_rest 35 = .ok (.invokevirtual 113, 3) := by decide +kernel
theorem dX5_rest_38 : decode cX5_rest 38 = .ok (.ireturn, 1) := by decide +kernel
theorem dX5_stride_0 : decode cX5_stride 0 = .ok (.iload_n 1, 1) := by decide +kernel
theorem dX5_stride_1 : decode cX5_stride 1 = .ok (.invokestatic 52, 3) := by decide +kernel
theorem dX5_stride_4 : decode cX5_stride 4 = .ok (.ifCond .ne 13, 3) := by decide +kernel
theorem dX5_stride_7 : decode cX5_stride 7 = .ok (.new 56, 3) := by decide +kernel
theorem dX5_stride_10 : decode cX5_stride 10 = .ok (.dup, 1) := by decide +kernel
theorem dX5_stride_11 : decode cX5_stride 11 = .ok (.ldc 58, 2) := by decide +kernel
theorem dX5_stride_13 : decode cX5_stride 13 = .ok (.invokespecial 60, 3) := by decide +kernel
theorem dX5_stride_16 : decode cX5_stride 16 = .ok (.athrow, 1) := by decide +kernel
theorem dX5_stride_17 : decode cX5_stride 17 = .ok (.aload_n 0, 1) := by decide +kernel
theorem dX5_stride_18 : decode cX5_stride 18 = .ok (.getfield 10, 3) := by decide +kernel
theorem dX5_stride_21 : decode cX5_stride 21 = .ok (.invokevirtual 107, 3) := by decide +kernel
theorem dX5_stride_24 : decode cX5_stride 24 = .ok (.ifCond .ne 13, 3) := by decide +kernel
theorem dX5_stride_27 : decode cX5_stride 27 = .ok (.new 82, 3) := by decide +kernel
theorem dX5_stride_30 : decode cX5_stride 30 = .ok (.dup, 1) := by decide +kernel
theorem dX5_stride_31 : decode cX5_stride 31 = .ok (.ldc 111, 2) := by decide +kernel
theorem dX5_stride_33 : decode cX5_stride 33 = .ok (.invokespecial 86, 3) := by decide +kernel
theorem dX5_stride_36 : decode cX5_stride 36 = .ok (.athrow, 1) := by decide +kernel
theorem dX5_stride_37 : decode cX5_stride 37 = .ok (.aload_n 0, 1) := by decide +kernel
theorem dX5_stride_38 : decode cX5_stride 38 = .ok (.getfield 27, 3) := by decide +kernel
theorem dX5_stride_41 : decode cX5_stride 41 = .ok (.aload_n 0, 1) := by decide +kernel
theorem dX5_stride_42 : decode cX5_stride 42 = .ok (.getfield 10, 3) := by decide +kernel
theorem dX5_stride_45 : decode cX5_stride 45 = .ok (.invokevirtual 68, 3) := by decide +kernel
theorem dX5_stride_48 : decode cX5_stride 48 = .ok (.aload_n 0, 1) := by decide +kernel
theorem dX5_stride_49 : decode cX5_stride 49 = .ok (.getfield 10, 3) := by decide +kernel
theorem dX5_stride_52 : decode cX5_stride 52 = .ok (.iload_n 1, 1) := by decide +kernel
theorem dX5_stride_53 : decode cX5_stride 53 = .ok (.invokevirtual 117, 3) := by decide +kernel
theorem dX5_stride_56 : decode cX5_stride 56 = .ok (.ireturn, 1) := by decide +kernel
theorem dX5_turnOver_0 : decode cX5_turnOver 0 = .ok (.aload_n 0, 1) := by decide +kernel
theorem dX5_turnOver_1 : decode cX5_turnOver 1 = .ok (.getfield 10, 3) := by decide +kernel
theorem dX5_turnOver_4 : decode cX5_turnOver 4 = .ok (.invokevirtual 107, 3) := by decide +kernel
theorem dX5_turnOver_7 : decode cX5_turnOver 7 = .ok (.ifCond .ne 13, 3) := by decide +kernel
theorem dX5_turnOver_10 : decode cX5_turnOver 10 = .ok (.new 82, 3) := by decide +kernel
theorem dX5_turnOver_13 : decode cX5_turnOver 13 = .ok (.dup, 1) := by decide +kernel
theorem dX5_turnOver_14 : decode cX5_turnOver 14 = .ok (.ldc 111, 2) := by decide +kernel
theorem dX5_turnOver_16 : decode cX5_turnOver 16 = .ok (.invokespecial 86, 3) := by decide +kernel
theorem dX5_turnOver_19 : decode cX5_turnOver 19 = .ok (.athrow, 1) := by decide +kernel
theorem dX5_turnOver_20 : decode cX5_turnOver 20 = .ok (.aload_n 0, 1) := by decide +kernel
theorem dX5_turnOver_21 : decode cX5_turnOver 21 = .ok (.getfield 27, 3) := by decide +kernel
theorem dX5_turnOver_24 : decode cX5_turnOver 24 = .ok (.aload_n 0, 1) := by decide +kernel
theorem dX5_turnOver_25 : decode cX5_turnOver 25 = .ok (.getfield 10, 3) := by decide +kernel
theorem dX5_turnOver_28 : decode cX5_turnOver 28 = .ok (.invokevirtual 68, 3) := by decide +kernel
theorem dX5_turnOver_31 : decode cX5_turnOver 31 = .ok (.aload_n 0, 1) := by decide +kernel
theorem dX5_turnOver_32 : decode cX5_turnOver 32 = .ok (.getfield 10, 3) := by decide +kernel
theorem dX5_turnOver_35 : decode cX5_turnOver 35 = .ok (.invokevirtual 121, 3) := by decide +kernel
theorem dX5_turnOver_38 : decode cX5_turnOver 38 = .ok (.ireturn, 1) := by decide +kernel
theorem dX5_tag_0 : decode cX5_tag 0 = .ok (.aload_n 0, 1) := by decide +kernel
theorem dX5_tag_1 : decode cX5_tag 1 = .ok (.getfield 10, 3) := by decide +kernel
theorem dX5_tag_4 : decode cX5_tag 4 = .ok (.iload_n 1, 1) := by decide +kernel
theorem dX5_tag_5 : decode cX5_tag 5 = .ok (.invokevirtual 124, 3) := by decide +kernel
theorem dX5_tag_8 : decode cX5_tag 8 = .ok (.ifCond .ne 13, 3) := by decide +kernel
theorem dX5_tag_11 : decode cX5_tag 11 = .ok (.new 56, 3) := by decide +kernel
theorem dX5_tag_14 : decode cX5_tag 14 = .ok (.dup, 1) := by decide +kernel
theorem dX5_tag_15 : decode cX5_tag 15 = .ok (.ldc 127, 2) := by decide +kernel
theorem dX5_tag_17 : decode cX5_tag 17 = .ok (.invokespecial 60, 3) := by decide +kernel
theorem dX5_tag_20 : decode cX5_tag 20 = .ok (.athrow, 1) := by decide +kernel
theorem dX5_tag_21 : decode cX5_tag 21 = .ok (.aload_n 0, 1) := by decide +kernel
theorem dX5_tag_22 : decode cX5_tag 22 = .ok (.getfield 10, 3) := by decide +kernel
theorem dX5_tag_25 : decode cX5_tag 25 = .ok (.invokevirtual 107, 3) := by decide +kernel
theorem dX5_tag_28 : decode cX5_tag 28 = .ok (.ifCond .ne 13, 3) := by decide +kernel
theorem dX5_tag_31 : decode cX5_tag 31 = .ok (.new 82, 3) := by decide +kernel
theorem dX5_tag_34 : decode cX5_tag 34 = .ok (.dup, 1) := by decide +kernel
theorem dX5_tag_35 : decode cX5_tag 35 = .ok (.ldc 129, 2) := by decide +kernel
theorem dX5_tag_37 : decode cX5_tag 37 = .ok (.invokespecial 86, 3) := by decide +kernel
theorem dX5_tag_40 : decode cX5_tag 40 = .ok (.athrow, 1) := by decide +kernel
theorem dX5_tag_41 : decode cX5_tag 41 = .ok (.aload_n 0, 1) := by decide +kernel
theorem dX5_tag_42 : decode cX5_tag 42 = .ok (.getfield 27, 3) := by decide +kernel
theorem dX5_tag_45 : decode cX5_tag 45 = .ok (.aload_n 0, 1) := by decide +kernel
theorem dX5_tag_46 : decode cX5_tag 46 = .ok (.getfield 10, 3) := by decide +kernel
theorem dX5_tag_49 : decode cX5_tag 49 = .ok (.invokevirtual 68, 3) := by decide +kernel
theorem dX5_tag_52 : decode cX5_tag 52 = .ok (.aload_n 0, 1) := by decide +kernel
theorem dX5_tag_53 : decode cX5_tag 53 = .ok (.getfield 10, 3) := by decide +kernel
theorem dX5_tag_56 : decode cX5_tag 56 = .ok (.iload_n 1, 1) := by decide +kernel
theorem dX5_tag_57 : decode cX5_tag 57 = .ok (.invokevirtual 131, 3) := by decide +kernel
theorem dX5_tag_60 : decode cX5_tag 60 = .ok (.ireturn, 1) := by decide +kernel
theorem dX5_append_0 : decode cX5_append 0 = .ok (.iload_n 1, 1) := by decide +kernel
theorem dX5_append_1 : decode cX5_append 1 = .ok (.bipush 33, 2) := by decide +kernel
theorem dX5_append_3 : decode cX5_append 3 = .ok (.if_icmp .lt 9, 3) := by decide +kernel
theorem dX5_append_6 : decode cX5_append 6 = .ok (.iload_n 1, 1) := by decide +kernel
theorem dX5_append_7 : decode cX5_append 7 = .ok (.bipush 126, 2) := by decide +kernel
theorem dX5_append_9 : decode cX5_append 9 = .ok (.if_icmp .le 13, 3) := by decide +kernel
theorem dX5_append_12 : decode cX5_append 12 = .ok (.new 63, 3) := by decide +kernel
theorem dX5_append_15 : decode cX5_append 15 = .ok (.dup, 1) := by decide +kernel
theorem dX5_append_16 : decode cX5_append 16 = .ok (.ldc 134, 2) := by decide +kernel
theorem dX5_append_18 : decode cX5_append 18 = .ok (.invokespecial 67, 3) := by decide +kernel
theorem dX5_append_21 : decode cX5_append 21 = .ok (.athrow, 1) := by decide +kernel
theorem dX5_append_22 : decode cX5_append 22 = .ok (.aload_n 0, 1) := by decide +kernel
theorem dX5_append_23 : decode cX5_append 23 = .ok (.getfield 34, 3) := by decide +kernel
theorem dX5_append_26 : decode cX5_append 26 = .ok (.getfield 136, 3) := by decide +kernel
theorem dX5_append_29 : decode cX5_append 29 = .ok (.bipush 60, 2) := by decide +kernel
theorem dX5_append_31 : decode cX5_append 31 = .ok (.if_icmp .lt 13, 3) := by decide +kernel
theorem dX5_append_34 : decode cX5_append 34 = .ok (.new 82, 3) := by decide +kernel
theorem dX5_append_37 : decode cX5_append 37 = .ok (.dup, 1) := by decide +kernel
theorem dX5_append_38 : decode cX5_append 38 = .ok (.ldc 139, 2) := by decide +kernel
theorem dX5_append_40 : decode cX5_append 40 = .ok (.invokespecial 86, 3) := by decide +kernel
theorem dX5_append_43 : decode cX5_append 43 = .ok (.athrow, 1) := by decide +kernel
theorem dX5_append_44 : decode cX5_append 44 = .ok (.aload_n 0, 1) := by decide +kernel
theorem dX5_append_45 : decode cX5_append 45 = .ok (.getfield 34, 3) := by decide +kernel
theorem dX5_append_48 : decode cX5_append 48 = .ok (.iload_n 1, 1) := by decide +kernel
theorem dX5_append_49 : decode cX5_append 49 = .ok (.invokevirtual 141, 3) := by decide +kernel
theorem dX5_append_52 : decode cX5_append 52 = .ok (.ireturn, 1) := by decide +kernel
theorem dX5_clearBuffer_0 : decode cX5_clearBuffer 0 = .ok (.aload_n 0, 1) := by decide +kernel
theorem dX5_clearBuffer_1 : decode cX5_clearBuffer 1 = .ok (.getfield 34, 3) := by decide +kernel
theorem dX5_clearBuffer_4 : decode cX5_clearBuffer 4 = .ok (.invokevirtual 144, 3) := by decide +kernel
theorem dX5_clearBuffer_7 : decode cX5_clearBuffer 7 = .ok (.ireturn, 1) := by decide +kernel
theorem dX5_firstError_0 : decode cX5_firstError 0 = .ok (.aload_n 0, 1) := by decide +kernel
theorem dX5_firstError_1 : decode cX5_firstError 1 = .ok (.getfield 34, 3) := by decide +kernel
theorem dX5_firstError_4 : decode cX5_firstError 4 = .ok (.invokevirtual 147, 3) := by decide +kernel
theorem dX5_firstError_7 : decode cX5_firstError 7 = .ok (.ireturn, 1) := by decide +kernel
theorem dX5_run_0 : decode cX5_run 0 = .ok (.aload_n 0, 1) := by decide +kernel
theorem dX5_run_1 : decode cX5_run 1 = .ok (.getfield 34, 3) := by decide +kernel
theorem dX5_run_4 : decode cX5_run 4 = .ok (.invokevirtual 150, 3) := by decide +kernel
theorem dX5_run_7 : decode cX5_run 7 = .ok (.ifCond .ne 13, 3) := by decide +kernel
theorem dX5_run_10 : decode cX5_run 10 = .ok (.new 63, 3) := by decide +kernel
theorem dX5_run_13 : decode cX5_run 13 = .ok (.dup, 1) := by decide +kernel
theorem dX5_run_14 : decode cX5_run 14 = .ok (.ldc 153, 2) := by decide +kernel
theorem dX5_run_16 : decode cX5_run 16 = .ok (.invokespecial 67, 3) := by decide +kernel
theorem dX5_run_19 : decode cX5_run 19 = .ok (.athrow, 1) := by decide +kernel
theorem dX5_run_20 : decode cX5_run 20 = .ok (.aload_n 0, 1) := by decide +kernel
theorem dX5_run_21 : decode cX5_run 21 = .ok (.getfield 27, 3) := by decide +kernel
theorem dX5_run_24 : decode cX5_run 24 = .ok (.aload_n 0, 1) := by decide +kernel
theorem dX5_run_25 : decode cX5_run 25 = .ok (.getfield 10, 3) := by decide +kernel
theorem dX5_run_28 : decode cX5_run 28 = .ok (.invokevirtual 68, 3) := by decide +kernel
theorem dX5_run_31 : decode cX5_run 31 = .ok (.iconst 0, 1) := by decide +kernel
theorem dX5_run_32 : decode cX5_run 32 = .ok (.istore_n 1, 1) := by decide +kernel
theorem dX5_run_33 : decode cX5_run 33 = .ok (.iconst 0, 1) := by decide +kernel
theorem dX5_run_34 : decode cX5_run 34 = .ok (.istore_n 2, 1) := by decide +kernel
theorem dX5_run_35 : decode cX5_run 35 = .ok (.iload_n 1, 1) := by decide +kernel
theorem dX5_run_36 : decode cX5_run 36 = .ok (.bipush 60, 2) := by decide +kernel
theorem dX5_run_38 : decode cX5_run 38 = .ok (.if_icmp .ge 56, 3) := by decide +kernel
theorem dX5_run_41 : decode cX5_run 41 = .ok (.iload_n 2, 1) := by decide +kernel
theorem dX5_run_42 : decode cX5_run 42 = .ok (.aload_n 0, 1) := by decide +kernel
theorem dX5_run_43 : decode cX5_run 43 = .ok (.getfield 34, 3) := by decide +kernel
theorem dX5_run_46 : decode cX5_run 46 = .ok (.getfield 136, 3) := by decide +kernel
theorem dX5_run_49 : decode cX5_run 49 = .ok (.if_icmp .ge 45, 3) := by decide +kernel
theorem dX5_run_52 : decode cX5_run 52 = .ok (.aload_n 0, 1) := by decide +kernel
theorem dX5_run_53 : decode cX5_run 53 = .ok (.aload_n 0, 1) := by decide +kernel
theorem dX5_run_54 : decode cX5_run 54 = .ok (.getfield 34, 3) := by decide +kernel
theorem dX5_run_57 : decode cX5_run 57 = .ok (.iload_n 2, 1) := by decide +kernel
theorem dX5_run_58 : decode cX5_run 58 = .ok (.invokevirtual 155, 3) := by decide +kernel
theorem dX5_run_61 : decode cX5_run 61 = .ok (.aload_n 0, 1) := by decide +kernel
theorem dX5_run_62 : decode cX5_run 62 = .ok (.getfield 34, 3) := by decide +kernel
theorem dX5_run_65 : decode cX5_run 65 = .ok (.iload_n 2, 1) := by decide +kernel
theorem dX5_run_66 : decode cX5_run 66 = .ok (.iconst 1, 1) := by decide +kernel
theorem dX5_run_67 : decode cX5_run 67 = .ok (.iadd, 1) := by decide +kernel
theorem dX5_run_68 : decode cX5_run 68 = .ok (.invokevirtual 158, 3) := by decide +kernel
theorem dX5_run_71 : decode cX5_run 71 = .ok (.invokevirtual 161, 3) := by decide +kernel
theorem dX5_run_74 : decode cX5_run 74 = .ok (.ifCond .eq 20, 3) := by decide +kernel
theorem dX5_run_77 : decode cX5_run 77 = .ok (.iinc 1 1, 3) := by decide +kernel
theorem dX5_run_80 : decode cX5_run 80 = .ok (.iload_n 2, 1) := by decide +kernel
theorem dX5_run_81 : decode cX5_run 81 = .ok (.aload_n 0, 1) := by decide +kernel
theorem dX5_run_82 : decode cX5_run 82 = .ok (.getfield 34, 3) := by decide +kernel
theorem dX5_run_85 : decode cX5_run 85 = .ok (.iload_n 2, 1) := by decide +kernel
theorem dX5_run_86 : decode cX5_run 86 = .ok (.invokevirtual 165, 3) := by decide +kernel
theorem dX5_run_89 : decode cX5_run 89 = .ok (.iadd, 1) := by decide +kernel
theorem dX5_run_90 : decode cX5_run 90 = .ok (.istore_n 2, 1) := by decide +kernel
theorem dX5_run_91 : decode cX5_run 91 = .ok (.goto (-56), 3) := by decide +kernel
theorem dX5_run_94 : decode cX5_run 94 = .ok (.aload_n 0, 1) := by decide +kernel
theorem dX5_run_95 : decode cX5_run 95 = .ok (.getfield 34, 3) := by decide +kernel
theorem dX5_run_98 : decode cX5_run 98 = .ok (.invokevirtual 144, 3) := by decide +kernel
theorem dX5_run_101 : decode cX5_run 101 = .ok (.pop, 1) := by decide +kernel
theorem dX5_run_102 : decode cX5_run 102 = .ok (.iload_n 1, 1) := by decide +kernel
theorem dX5_run_103 : decode cX5_run 103 = .ok (.ireturn, 1) := by decide +kernel
theorem dX5_keep_0 : decode cX5_keep 0 = .ok (.iload_n 1, 1) := by decide +kernel
theorem dX5_keep_1 : decode cX5_keep 1 = .ok (.ifCond .lt 8, 3) := by decide +kernel
theorem dX5_keep_4 : decode cX5_keep 4 = .ok (.iload_n 1, 1) := by decide +kernel
theorem dX5_keep_5 : decode cX5_keep 5 = .ok (.iconst 2, 1) := by decide +kernel
theorem dX5_keep_6 : decode cX5_keep 6 = .ok (.if_icmp .lt 13, 3) := by decide +kernel
theorem dX5_keep_9 : decode cX5_keep 9 = .ok (.new 63, 3) := by decide +kernel
theorem dX5_keep_12 : decode cX5_keep 12 = .ok (.dup, 1) := by decide +kernel
theorem dX5_keep_13 : decode cX5_keep 13 = .ok (.ldc 168, 2) := by decide +kernel
theorem dX5_keep_15 : decode cX5_keep 15 = .ok (.invokespecial 67, 3) := by decide +kernel
theorem dX5_keep_18 : decode cX5_keep 18 = .ok (.athrow, 1) := by decide +kernel
theorem dX5_keep_19 : decode cX5_keep 19 = .ok (.aload_n 0, 1) := by decide +kernel
theorem dX5_keep_20 : decode cX5_keep 20 = .ok (.getfield 16, 3) := by decide +kernel
theorem dX5_keep_23 : decode cX5_keep 23 = .ok (.iload_n 1, 1) := by decide +kernel
theorem dX5_keep_24 : decode cX5_keep 24 = .ok (.aaload, 1) := by decide +kernel
theorem dX5_keep_25 : decode cX5_keep 25 = .ok (.aload_n 0, 1) := by decide +kernel
theorem dX5_keep_26 : decode cX5_keep 26 = .ok (.getfield 10, 3) := by decide +kernel
theorem dX5_keep_29 : decode cX5_keep 29 = .ok (.invokevirtual 170, 3) := by decide +kernel
theorem dX5_keep_32 : decode cX5_keep 32 = .ok (.aload_n 0, 1) := by decide +kernel
theorem dX5_keep_33 : decode cX5_keep 33 = .ok (.getfield 20, 3) := by decide +kernel
theorem dX5_keep_36 : decode cX5_keep 36 = .ok (.iload_n 1, 1) := by decide +kernel
theorem dX5_keep_37 : decode cX5_keep 37 = .ok (.iconst 1, 1) := by decide +kernel
theorem dX5_keep_38 : decode cX5_keep 38 = .ok (.bastore, 1) := by decide +kernel
theorem dX5_keep_39 : decode cX5_keep 39 = .ok (.aload_n 0, 1) := by decide +kernel
theorem dX5_keep_40 : decode cX5_keep 40 = .ok (.getfield 10, 3) := by decide +kernel
theorem dX5_keep_43 : decode cX5_keep 43 = .ok (.getfield 173, 3) := by decide +kernel
theorem dX5_keep_46 : decode cX5_keep 46 = .ok (.ireturn, 1) := by decide +kernel
theorem dX5_goBack_0 : decode cX5_goBack 0 = .ok (.iload_n 1, 1) := by decide +kernel
theorem dX5_goBack_1 : decode cX5_goBack 1 = .ok (.ifCond .lt 8, 3) := by decide +kernel
theorem dX5_goBack_4 : decode cX5_goBack 4 = .ok (.iload_n 1, 1) := by decide +kernel
theorem dX5_goBack_5 : decode cX5_goBack 5 = .ok (.iconst 2, 1) := by decide +kernel
theorem dX5_goBack_6 : decode cX5_goBack 6 = .ok (.if_icmp .lt 13, 3) := by decide +kernel
theorem dX5_goBack_9 : decode cX5_goBack 9 = .ok (.new 63, 3) := by decide +kernel
theorem dX5_goBack_12 : decode cX5_goBack 12 = .ok (.dup, 1) := by decide +kernel
theorem dX5_goBack_13 : decode cX5_goBack 13 = .ok (.ldc 168, 2) := by decide +kernel
theorem dX5_goBack_15 : decode cX5_goBack 15 = .ok (.invokespecial 67, 3) := by decide +kernel
theorem dX5_goBack_18 : decode cX5_goBack 18 = .ok (.athrow, 1) := by decide +kernel
theorem dX5_goBack_19 : decode cX5_goBack 19 = .ok (.aload_n 0, 1) := by decide +kernel
theorem dX5_goBack_20 : decode cX5_goBack 20 = .ok (.getfield 20, 3) := by decide +kernel
theorem dX5_goBack_23 : decode cX5_goBack 23 = .ok (.iload_n 1, 1) := by decide +kernel
theorem dX5_goBack_24 : decode cX5_goBack 24 = .ok (.baload, 1) := by decide +kernel
theorem dX5_goBack_25 : decode cX5_goBack 25 = .ok (.ifCond .ne 13, 3) := by decide +kernel
theorem dX5_goBack_28 : decode cX5_goBack 28 = .ok (.new 82, 3) := by decide +kernel
theorem dX5_goBack_31 : decode cX5_goBack 31 = .ok (.dup, 1) := by decide +kernel
theorem dX5_goBack_32 : decode cX5_goBack 32 = .ok (.ldc 176, 2) := by decide +kernel
theorem dX5_goBack_34 : decode cX5_goBack 34 = .ok (.invokespecial 86, 3) := by decide +kernel
theorem dX5_goBack_37 : decode cX5_goBack 37 = .ok (.athrow, 1) := by decide +kernel
theorem dX5_goBack_38 : decode cX5_goBack 38 = .ok (.aload_n 0, 1) := by decide +kernel
theorem dX5_goBack_39 : decode cX5_goBack 39 = .ok (.getfield 27, 3) := by decide +kernel
theorem dX5_goBack_42 : decode cX5_goBack 42 = .ok (.aload_n 0, 1) := by decide +kernel
theorem dX5_goBack_43 : decode cX5_goBack 43 = .ok (.getfield 10, 3) := by decide +kernel
theorem dX5_goBack_46 : decode cX5_goBack 46 = .ok (.invokevirtual 68, 3) := by decide +kernel
theorem dX5_goBack_49 : decode cX5_goBack 49 = .ok (.aload_n 0, 1) := by decide +kernel
theorem dX5_goBack_50 : decode cX5_goBack 50 = .ok (.getfield 10, 3) := by decide +kernel
theorem dX5_goBack_53 : decode cX5_goBack 53 = .ok (.aload_n 0, 1) := by decide +kernel
theorem dX5_goBack_54 : decode cX5_goBack 54 = .ok (.getfield 16, 3) := by decide +kernel
theorem dX5_goBack_57 : decode cX5_goBack 57 = .ok (.iload_n 1, 1) := by decide +kernel
theorem dX5_goBack_58 : decode cX5_goBack 58 = .ok (.aaload, 1) := by decide +kernel
theorem dX5_goBack_59 : decode cX5_goBack 59 = .ok (.invokevirtual 170, 3) := by decide +kernel
theorem dX5_goBack_62 : decode cX5_goBack 62 = .ok (.aload_n 0, 1) := by decide +kernel
theorem dX5_goBack_63 : decode cX5_goBack 63 = .ok (.getfield 10, 3) := by decide +kernel
theorem dX5_goBack_66 : decode cX5_goBack 66 = .ok (.getfield 173, 3) := by decide +kernel
theorem dX5_goBack_69 : decode cX5_goBack 69 = .ok (.ireturn, 1) := by decide +kernel
theorem dX5_undo_0 : decode cX5_undo 0 = .ok (.aload_n 0, 1) := by decide +kernel
theorem dX5_undo_1 : decode cX5_undo 1 = .ok (.getfield 27, 3) := by decide +kernel
theorem dX5_undo_4 : decode cX5_undo 4 = .ok (.getfield 178, 3) := by decide +kernel
theorem dX5_undo_7 : decode cX5_undo 7 = .ok (.ifCond .gt 13, 3) := by decide +kernel
theorem dX5_undo_10 : decode cX5_undo 10 = .ok (.new 82, 3) := by decide +kernel
theorem dX5_undo_13 : decode cX5_undo 13 = .ok (.dup, 1) := by decide +kernel
theorem dX5_undo_14 : decode cX5_undo 14 = .ok (.ldc 181, 2) := by decide +kernel
theorem dX5_undo_16 : decode cX5_undo 16 = .ok (.invokespecial 86, 3) := by decide +kernel
theorem dX5_undo_19 : decode cX5_undo 19 = .ok (.athrow, 1) := by decide +kernel
theorem dX5_undo_20 : decode cX5_undo 20 = .ok (.aload_n 0, 1) := by decide +kernel
theorem dX5_undo_21 : decode cX5_undo 21 = .ok (.getfield 27, 3) := by decide +kernel
theorem dX5_undo_24 : decode cX5_undo 24 = .ok (.aload_n 0, 1) := by decide +kernel
theorem dX5_undo_25 : decode cX5_undo 25 = .ok (.getfield 10, 3) := by decide +kernel
theorem dX5_undo_28 : decode cX5_undo 28 = .ok (.invokevirtual 183, 3) := by decide +kernel
theorem dX5_undo_31 : decode cX5_undo 31 = .ok (.aload_n 0, 1) := by decide +kernel
theorem dX5_undo_32 : decode cX5_undo 32 = .ok (.getfield 27, 3) := by decide +kernel
theorem dX5_undo_35 : decode cX5_undo 35 = .ok (.getfield 178, 3) := by decide +kernel
theorem dX5_undo_38 : decode cX5_undo 38 = .ok (.ireturn, 1) := by decide +kernel
theorem dX5_tower_0 : decode cX5_tower 0 = .ok (.iload_n 1, 1) := by decide +kernel
theorem dX5_tower_1 : decode cX5_tower 1 = .ok (.invokestatic 52, 3) := by decide +kernel
theorem dX5_tower_4 : decode cX5_tower 4 = .ok (.ifCond .ne 13, 3) := by decide +kernel
theorem dX5_tower_7 : decode cX5_tower 7 = .ok (.new 56, 3) := by decide +kernel
theorem dX5_tower_10 : decode cX5_tower 10 = .ok (.dup, 1) := by decide +kernel
theorem dX5_tower_11 : decode cX5_tower 11 = .ok (.ldc 58, 2) := by decide +kernel
theorem dX5_tower_13 : decode cX5_tower 13 = .ok (.invokespecial 60, 3) := by decide +kernel
theorem dX5_tower_16 : decode cX5_tower 16 = .ok (.athrow, 1) := by decide +kernel
theorem dX5_tower_17 : decode cX5_tower 17 = .ok (.iload_n 2, 1) := by decide +kernel
theorem dX5_tower_18 : decode cX5_tower 18 = .ok (.ifCond .lt 8, 3) := by decide +kernel
theorem dX5_tower_21 : decode cX5_tower 21 = .ok (.iload_n 2, 1) := by decide +kernel
theorem dX5_tower_22 : decode cX5_tower 22 = .ok (.iconst 4, 1) := by decide +kernel
theorem dX5_tower_23 : decode cX5_tower 23 = .ok (.if_icmp .lt 13, 3) := by decide +kernel
theorem dX5_tower_26 : decode cX5_tower 26 = .ok (.new 63, 3) := by decide +kernel
theorem dX5_tower_29 : decode cX5_tower 29 = .ok (.dup, 1) := by decide +kernel
theorem dX5_tower_30 : decode cX5_tower 30 = .ok (.ldc 186, 2) := by decide +kernel
theorem dX5_tower_32 : decode cX5_tower 32 = .ok (.invokespecial 67, 3) := by decide +kernel
theorem dX5_tower_35 : decode cX5_tower 35 = .ok (.athrow, 1) := by decide +kernel
theorem dX5_tower_36 : decode cX5_tower 36 = .ok (.aload_n 0, 1) := by decide +kernel
theorem dX5_tower_37 : decode cX5_tower 37 = .ok (.iload_n 1, 1) := by decide +kernel
theorem dX5_tower_38 : decode cX5_tower 38 = .ok (.iload_n 2, 1) := by decide +kernel
theorem dX5_tower_39 : decode cX5_tower 39 = .ok (.invokevirtual 188, 3) := by decide +kernel
theorem dX5_tower_42 : decode cX5_tower 42 = .ok (.ireturn, 1) := by decide +kernel
theorem dX5_playerOf_0 : decode cX5_playerOf 0 = .ok (.aload_n 0, 1) := by decide +kernel
theorem dX5_playerOf_1 : decode cX5_playerOf 1 = .ok (.getfield 10, 3) := by decide +kernel
theorem dX5_playerOf_4 : decode cX5_playerOf 4 = .ok (.iload_n 1, 1) := by decide +kernel
theorem dX5_playerOf_5 : decode cX5_playerOf 5 = .ok (.invokevirtual 124, 3) := by decide +kernel
theorem dX5_playerOf_8 : decode cX5_playerOf 8 = .ok (.ifCond .ne 13, 3) := by decide +kernel
theorem dX5_playerOf_11 : decode cX5_playerOf 11 = .ok (.new 56, 3) := by decide +kernel
theorem dX5_playerOf_14 : decode cX5_playerOf 14 = .ok (.dup, 1) := by decide +kernel
theorem dX5_playerOf_15 : decode cX5_playerOf 15 = .ok (.ldc 127, 2) := by decide +kernel
theorem dX5_playerOf_17 : decode cX5_playerOf 17 = .ok (.invokespecial 60, 3) := by decide +kernel
theorem dX5_playerOf_20 : decode cX5_playerOf 20 = .ok (.athrow, 1) := by decide +kernel
theorem dX5_playerOf_21 : decode cX5_playerOf 21 = .ok (.iload_n 2, 1) := by decide +kernel
theorem dX5_playerOf_22 : decode cX5_playerOf 22 = .ok (.ifCond .lt 9, 3) := by decide +kernel
theorem dX5_playerOf_25 : decode cX5_playerOf 25 = .ok (.iload_n 2, 1) := by decide +kernel
theorem dX5_playerOf_26 : decode cX5_playerOf 26 = .ok (.bipush 9, 2) := by decide +kernel
theorem dX5_playerOf_28 : decode cX5_playerOf 28 = .ok (.if_icmp .lt 13, 3) := by decide +kernel
theorem dX5_playerOf_31 : decode cX5_playerOf 31 = .ok (.new 63, 3) := by decide +kernel
theorem dX5_playerOf_34 : decode cX5_playerOf 34 = .ok (.dup, 1) := by decide +kernel
theorem dX5_playerOf_35 : decode cX5_playerOf 35 = .ok (.ldc 191, 2) := by decide +kernel
theorem dX5_playerOf_37 : decode cX5_playerOf 37 = .ok (.invokespecial 67, 3) := by decide +kernel
theorem dX5_playerOf_40 : decode cX5_playerOf 40 = .ok (.athrow, 1) := by decide +kernel
theorem dX5_playerOf_41 : decode cX5_playerOf 41 = .ok (.aload_n 0, 1) := by decide +kernel
theorem dX5_playerOf_42 : decode cX5_playerOf 42 = .ok (.iload_n 1, 1) := by decide +kernel
theorem dX5_playerOf_43 : decode cX5_playerOf 43 = .ok (.iload_n 2, 1) := by decide +kernel
theorem dX5_playerOf_44 : decode cX5_playerOf 44 = .ok (.invokevirtual 193, 3) := by decide +kernel
theorem dX5_playerOf_47 : decode cX5_playerOf 47 = .ok (.ireturn, 1) := by decide +kernel
theorem dX5_count_0 : decode cX5_count 0 = .ok (.iload_n 1, 1) := by decide +kernel
theorem dX5_count_1 : decode cX5_count 1 = .ok (.ifCond .lt 9, 3) := by decide +kernel
theorem dX5_count_4 : decode cX5_count 4 = .ok (.iload_n 1, 1) := by decide +kernel
theorem dX5_count_5 : decode cX5_count 5 = .ok (.bipush 11, 2) := by decide +kernel
theorem dX5_count_7 : decode cX5_count 7 = .ok (.if_icmp .lt 13, 3) := by decide +kernel
theorem dX5_count_10 : decode cX5_count 10 = .ok (.new 63, 3) := by decide +kernel
theorem dX5_count_13 : decode cX5_count 13 = .ok (.dup, 1) := by decide +kernel
theorem dX5_count_14 : decode cX5_count 14 = .ok (.ldc 196, 2) := by decide +kernel
theorem dX5_count_16 : decode cX5_count 16 = .ok (.invokespecial 67, 3) := by decide +kernel
theorem dX5_count_19 : decode cX5_count 19 = .ok (.athrow, 1) := by decide +kernel
theorem dX5_count_20 : decode cX5_count 20 = .ok (.aload_n 0, 1) := by decide +kernel
theorem dX5_count_21 : decode cX5_count 21 = .ok (.iload_n 1, 1) := by decide +kernel
theorem dX5_count_22 : decode cX5_count 22 = .ok (.invokevirtual 198, 3) := by decide +kernel
theorem dX5_count_25 : decode cX5_count 25 = .ok (.ireturn, 1) := by decide +kernel
theorem dX5_setting_0 : decode cX5_setting 0 = .ok (.iload_n 1, 1) := by decide +kernel
theorem dX5_setting_1 : decode cX5_setting 1 = .ok (.invokestatic 91, 3) := by decide +kernel
theorem dX5_setting_4 : decode cX5_setting 4 = .ok (.ifCond .ne 13, 3) := by decide +kernel
theorem dX5_setting_7 : decode cX5_setting 7 = .ok (.new 56, 3) := by decide +kernel
theorem dX5_setting_10 : decode cX5_setting 10 = .ok (.dup, 1) := by decide +kernel
theorem dX5_setting_11 : decode cX5_setting 11 = .ok (.ldc 94, 2) := by decide +kernel
theorem dX5_setting_13 : decode cX5_setting 13 = .ok (.invokespecial 60, 3) := by decide +kernel
theorem dX5_setting_16 : decode cX5_setting 16 = .ok (.athrow, 1) := by decide +kernel
theorem dX5_setting_17 : decode cX5_setting 17 = .ok (.aload_n 0, 1) := by decide +kernel
theorem dX5_setting_18 : decode cX5_setting 18 = .ok (.getfield 10, 3) := by decide +kernel
theorem dX5_setting_21 : decode cX5_setting 21 = .ok (.getfield 104, 3) := by decide +kernel
theorem dX5_setting_24 : decode cX5_setting 24 = .ok (.iload_n 1, 1) := by decide +kernel
theorem dX5_setting_25 : decode cX5_setting 25 = .ok (.iaload, 1) := by decide +kernel
theorem dX5_setting_26 : decode cX5_setting 26 = .ok (.ireturn, 1) := by decide +kernel
theorem dX5_price_0 : decode cX5_price 0 = .ok (.iload_n 1, 1) := by decide +kernel
theorem dX5_price_1 : decode cX5_price 1 = .ok (.invokestatic 52, 3) := by decide +kernel
theorem dX5_price_4 : decode cX5_price 4 = .ok (.ifCond .eq 10, 3) := by decide +kernel
theorem dX5_price_7 : decode cX5_price 7 = .ok (.iload_n 2, 1) := by decide +kernel
theorem dX5_price_8 : decode cX5_price 8 = .ok (.invokestatic 52, 3) := by decide +kernel
theorem dX5_price_11 : decode cX5_price 11 = .ok (.ifCond .ne 13, 3) := by decide +kernel
theorem dX5_price_14 : decode cX5_price 14 = .ok (.new 56, 3) := by decide +kernel
theorem dX5_price_17 : decode cX5_price 17 = .ok (.dup, 1) := by decide +kernel
theorem dX5_price_18 : decode cX5_price 18 = .ok (.ldc 58, 2) := by decide +kernel
theorem dX5_price_20 : decode cX5_price 20 = .ok (.invokespecial 60, 3) := by decide +kernel
theorem dX5_price_23 : decode cX5_price 23 = .ok (.athrow, 1) := by decide +kernel
theorem dX5_price_24 : decode cX5_price 24 = .ok (.iload_n 3, 1) := by decide +kernel
theorem dX5_price_25 : decode cX5_price 25 = .ok (.ifCond .eq 18, 3) := by decide +kernel
theorem dX5_price_28 : decode cX5_price 28 = .ok (.iload_n 3, 1) := by decide +kernel
theorem dX5_price_29 : decode cX5_price 29 = .ok (.iconst 1, 1) := by decide +kernel
theorem dX5_price_30 : decode cX5_price 30 = .ok (.if_icmp .eq 13, 3) := by decide +kernel
theorem dX5_price_33 : decode cX5_price 33 = .ok (.new 63, 3) := by decide +kernel
theorem dX5_price_36 : decode cX5_price 36 = .ok (.dup, 1) := by decide +kernel
theorem dX5_price_37 : decode cX5_price 37 = .ok (.ldc 201, 2) := by decide +kernel
theorem dX5_price_39 : decode cX5_price 39 = .ok (.invokespecial 67, 3) := by decide +kernel
theorem dX5_price_42 : decode cX5_price 42 = .ok (.athrow, 1) := by decide +kernel
theorem dX5_price_43 : decode cX5_price 43 = .ok (.aload_n 0, 1) := by decide +kernel
theorem dX5_price_44 : decode cX5_price 44 = .ok (.getfield 41, 3) := by decide +kernel
theorem dX5_price_47 : decode cX5_price 47 = .ok (.aload_n 0, 1) := by decide +kernel
theorem dX5_price_48 : decode cX5_price 48 = .ok (.getfield 10, 3) := by decide +kernel
theorem dX5_price_51 : decode cX5_price 51 = .ok (.invokevirtual 203, 3) := by decide +kernel
theorem dX5_price_54 : decode cX5_price 54 = .ok (.iload_n 3, 1) := by decide +kernel
theorem dX5_price_55 : decode cX5_price 55 = .ok (.ifCond .ne 15, 3) := by decide +kernel
theorem dX5_price_58 : decode cX5_price 58 = .ok (.aload_n 0, 1) := by decide +kernel
theorem dX5_price_59 : decode cX5_price 59 = .ok (.getfield 41, 3) := by decide +kernel
theorem dX5_price_62 : decode cX5_price 62 = .ok (.iload_n 1, 1) := by decide +kernel
theorem dX5_price_63 : decode cX5_price 63 = .ok (.iload_n 2, 1) := by decide +kernel
theorem dX5_price_64 : decode cX5_price 64 = .ok (.invokevirtual 206, 3) := by decide +kernel
theorem dX5_price_67 : decode cX5_price 67 = .ok (.goto 12, 3) := by decide +kernel
theorem dX5_price_70 : decode cX5_price 70 = .ok (.aload_n 0, 1) := by decide +kernel
theorem dX5_price_71 : decode cX5_price 71 = .ok (.getfield 41, 3) := by decide +kernel
theorem dX5_price_74 : decode cX5_price 74 = .ok (.iload_n 1, 1) := by decide +kernel
theorem dX5_price_75 : decode cX5_price 75 = .ok (.iload_n 2, 1) := by decide +kernel
theorem dX5_price_76 : decode cX5_price 76 = .ok (.invokevirtual 209, 3) := by decide +kernel
theorem dX5_price_79 : decode cX5_price 79 = .ok (.ireturn, 1) := by decide +kernel
theorem dX5_whyNot_0 : decode cX5_whyNot 0 = .ok (.aload_n 0, 1) := by decide +kernel
theorem dX5_whyNot_1 : decode cX5_whyNot 1 = .ok (.getfield 10, 3) := by decide +kernel
theorem dX5_whyNot_4 : decode cX5_whyNot 4 = .ok (.iload_n 1, 1) := by decide +kernel
theorem dX5_whyNot_5 : decode cX5_whyNot 5 = .ok (.invokevirtual 124, 3) := by decide +kernel
theorem dX5_whyNot_8 : decode cX5_whyNot 8 = .ok (.ifCond .eq 10, 3) := by decide +kernel
theorem dX5_whyNot_11 : decode cX5_whyNot 11 = .ok (.iload_n 2, 1) := by decide +kernel
theorem dX5_whyNot_12 : decode cX5_whyNot 12 = .ok (.invokestatic 52, 3) := by decide +kernel
theorem dX5_whyNot_15 : decode cX5_whyNot 15 = .ok (.ifCond .ne 13, 3) := by decide +kernel
theorem dX5_whyNot_18 : decode cX5_whyNot 18 = .ok (.new 56, 3) := by decide +kernel
theorem dX5_whyNot_21 : decode cX5_whyNot 21 = .ok (.dup, 1) := by decide +kernel
theorem dX5_whyNot_22 : decode cX5_whyNot 22 = .ok (.ldc 212, 2) := by decide +kernel
theorem dX5_whyNot_24 : decode cX5_whyNot 24 = .ok (.invokespecial 60, 3) := by decide +kernel
theorem dX5_whyNot_27 : decode cX5_whyNot 27 = .ok (.athrow, 1) := by decide +kernel
theorem dX5_whyNot_28 : decode cX5_whyNot 28 = .ok (.aload_n 0, 1) := by decide +kernel
theorem dX5_whyNot_29 : decode cX5_whyNot 29 = .ok (.getfield 10, 3) := by decide +kernel
theorem dX5_whyNot_32 : decode cX5_whyNot 32 = .ok (.iload_n 1, 1) := by decide +kernel
theorem dX5_whyNot_33 : decode cX5_whyNot 33 = .ok (.iload_n 2, 1) := by decide +kernel
theorem dX5_whyNot_34 : decode cX5_whyNot 34 = .ok (.invokevirtual 214, 3) := by decide +kernel
theorem dX5_whyNot_37 : decode cX5_whyNot 37 = .ok (.ireturn, 1) := by decide +kernel
theorem dX5_movesTo_0 : decode cX5_movesTo 0 = .ok (.aload_n 0, 1) := by decide +kernel
theorem dX5_movesTo_1 : decode cX5_movesTo 1 = .ok (.getfield 10, 3) := by decide +kernel
theorem dX5_movesTo_4 : decode cX5_movesTo 4 = .ok (.iload_n 1, 1) := by decide +kernel
theorem dX5_movesTo_5 : decode cX5_movesTo 5 = .ok (.invokevirtual 124, 3) := by decide +kernel
theorem dX5_movesTo_8 : decode cX5_movesTo 8 = .ok (.ifCond .eq 10, 3) := by decide +kernel
theorem dX5_movesTo_11 : decode cX5_movesTo 11 = .ok (.iload_n 2, 1) := by decide +kernel
theorem dX5_movesTo_12 : decode cX5_movesTo 12 = .ok (.invokestatic 52, 3) := by decide +kernel
theorem dX5_movesTo_15 : decode cX5_movesTo 15 = .ok (.ifCond .ne 13, 3) := by decide +kernel
theorem dX5_movesTo_18 : decode cX5_movesTo 18 = .ok (.new 56, 3) := by decide +kernel
theorem dX5_movesTo_21 : decode cX5_movesTo 21 = .ok (.dup, 1) := by decide +kernel
theorem dX5_movesTo_22 : decode cX5_movesTo 22 = .ok (.ldc 212, 2) := by decide +kernel
theorem dX5_movesTo_24 : decode cX5_movesTo 24 = .ok (.invokespecial 60, 3) := by decide +kernel
theorem dX5_movesTo_27 : decode cX5_movesTo 27 = .ok (.athrow, 1) := by decide +kernel
theorem dX5_movesTo_28 : decode cX5_movesTo 28 = .ok (.aload_n 0, 1) := by decide +kernel
theorem dX5_movesTo_29 : decode cX5_movesTo 29 = .ok (.getfield 41, 3) := by decide +kernel
theorem dX5_movesTo_32 : decode cX5_movesTo 32 = .ok (.aload_n 0, 1) := by decide +kernel
theorem dX5_movesTo_33 : decode cX5_movesTo 33 = .ok (.getfield 10, 3) := by decide +kernel
theorem dX5_movesTo_36 : decode cX5_movesTo 36 = .ok (.invokevirtual 203, 3) := by decide +kernel
theorem dX5_movesTo_39 : decode cX5_movesTo 39 = .ok (.aload_n 0, 1) := by decide +kernel
theorem dX5_movesTo_40 : decode cX5_movesTo 40 = .ok (.getfield 48, 3) := by decide +kernel
theorem dX5_movesTo_43 : decode cX5_movesTo 43 = .ok (.aload_n 0, 1) := by decide +kernel
theorem dX5_movesTo_44 : decode cX5_movesTo 44 = .ok (.getfield 10, 3) := by decide +kernel
theorem dX5_movesTo_47 : decode cX5_movesTo 47 = .ok (.aload_n 0, 1) := by decide +kernel
theorem dX5_movesTo_48 : decode cX5_movesTo 48 = .ok (.getfield 41, 3) := by decide +kernel
theorem dX5_movesTo_51 : decode cX5_movesTo 51 = .ok (.iload_n 1, 1) := by decide +kernel
theorem dX5_movesTo_52 : decode cX5_movesTo 52 = .ok (.iload_n 2, 1) := by decide +kernel
theorem dX5_movesTo_53 : decode cX5_movesTo 53 = .ok (.invokevirtual 217, 3) := by decide +kernel
theorem dX5_movesTo_56 : decode cX5_movesTo 56 = .ok (.ireturn, 1) := by decide +kernel
theorem dX5_prey_0 : decode cX5_prey 0 = .ok (.aload_n 0, 1) := by decide +kernel
theorem dX5_prey_1 : decode cX5_prey 1 = .ok (.getfield 10, 3) := by decide +kernel
theorem dX5_prey_4 : decode cX5_prey 4 = .ok (.invokevirtual 221, 3) := by decide +kernel
theorem dX5_prey_7 : decode cX5_prey 7 = .ok (.ireturn, 1) := by decide +kernel
theorem dX5_lookout_0 : decode cX5_lookout 0 = .ok (.aload_n 0, 1) := by decide +kernel
theorem dX5_lookout_1 : decode cX5_lookout 1 = .ok (.getfield 10, 3) := by decide +kernel
theorem dX5_lookout_4 : decode cX5_lookout 4 = .ok (.invokevirtual 224, 3) := by decide +kernel
theorem dX5_lookout_7 : decode cX5_lookout 7 = .ok (.ireturn, 1) := by decide +kernel
theorem dX5_belowShare_0 : decode cX5_belowShare 0 = .ok (.aload_n 0, 1) := by decide +kernel
theorem dX5_belowShare_1 : decode cX5_belowShare 1 = .ok (.getfield 10, 3) := by decide +kernel
theorem dX5_belowShare_4 : decode cX5_belowShare 4 = .ok (.invokevirtual 227, 3) := by decide +kernel
theorem dX5_belowShare_7 : decode cX5_belowShare 7 = .ok (.dreturn, 1) := by decide +kernel
theorem dX5_digest_0 : decode cX5_digest 0 = .ok (.ldc2_w 231, 3) := by decide +kernel
theorem dX5_digest_3 : decode cX5_digest 3 = .ok (.lstore_n 1, 1) := by decide +kernel
theorem dX5_digest_4 : decode cX5_digest 4 = .ok (.iconst 0, 1) := by decide +kernel
theorem dX5_digest_5 : decode cX5_digest 5 = .ok (.istore_n 3, 1) := by decide +kernel
theorem dX5_digest_6 : decode cX5_digest 6 = .ok (.iload_n 3, 1) := by decide +kernel
theorem dX5_digest_7 : decode cX5_digest 7 = .ok (.bipush 11, 2) := by decide +kernel
theorem dX5_digest_9 : decode cX5_digest 9 = .ok (.if_icmp .ge 22, 3) := by decide +kernel
theorem dX5_digest_12 : decode cX5_digest 12 = .ok (.ldc2_w 233, 3) := by decide +kernel
theorem dX5_digest_15 : decode cX5_digest 15 = .ok (.lload_n 1, 1) := by decide +kernel
theorem dX5_digest_16 : decode cX5_digest 16 = .ok (.lmul, 1) := by decide +kernel
theorem dX5_digest_17 : decode cX5_digest 17 = .ok (.aload_n 0, 1) := by decide +kernel
theorem dX5_digest_18 : decode cX5_digest 18 = .ok (.iload_n 3, 1) := by decide +kernel
theorem dX5_digest_19 : decode cX5_digest 19 = .ok (.invokevirtual 198, 3) := by decide +kernel
theorem dX5_digest_22 : decode cX5_digest 22 = .ok (.i2l, 1) := by decide +kernel
theorem dX5_digest_23 : decode cX5_digest 23 = .ok (.ladd, 1) := by decide +kernel
theorem dX5_digest_24 : decode cX5_digest 24 = .ok (.lstore_n 1, 1) := by decide +kernel
theorem dX5_digest_25 : decode cX5_digest 25 = .ok (.iinc 3 1, 3) := by decide +kernel
theorem dX5_digest_28 : decode cX5_digest 28 = .ok (.goto (-22), 3) := by decide +kernel
theorem dX5_digest_31 : decode cX5_digest 31 = .ok (.iconst 0, 1) := by decide +kernel
theorem dX5_digest_32 : decode cX5_digest 32 = .ok (.istore_n 3, 1) := by decide +kernel
theorem dX5_digest_33 : decode cX5_digest 33 = .ok (.iload_n 3, 1) := by decide +kernel
theorem dX5_digest_34 : decode cX5_digest 34 = .ok (.iconst 4, 1) := by decide +kernel
theorem dX5_digest_35 : decode cX5_digest 35 = .ok (.if_icmp .ge 26, 3) := by decide +kernel
theorem dX5_digest_38 : decode cX5_digest 38 = .ok (.ldc2_w 233, 3) := by decide +kernel
theorem dX5_digest_41 : decode cX5_digest 41 = .ok (.lload_n 1, 1) := by decide +kernel
theorem dX5_digest_42 : decode cX5_digest 42 = .ok (.lmul, 1) := by decide +kernel
theorem dX5_digest_43 : decode cX5_digest 43 = .ok (.aload_n 0, 1) := by decide +kernel
theorem dX5_digest_44 : decode cX5_digest 44 = .ok (.getfield 10, 3) := by decide +kernel
theorem dX5_digest_47 : decode cX5_digest 47 = .ok (.getfield 104, 3) := by decide +kernel
theorem dX5_digest_50 : decode cX5_digest 50 = .ok (.iload_n 3, 1) := by decide +kernel
theorem dX5_digest_51 : decode cX5_digest 51 = .ok (.iaload, 1) := by decide +kernel
theorem dX5_digest_52 : decode cX5_digest 52 = .ok (.i2l, 1) := by decide +kernel
theorem dX5_digest_53 : decode cX5_digest 53 = .ok (.ladd, 1) := by decide +kernel
theorem dX5_digest_54 : decode cX5_digest 54 = .ok (.lstore_n 1, 1) := by decide +kernel
theorem dX5_digest_55 : decode cX5_digest 55 = .ok (.iinc 3 1, 3) := by decide +kernel
theorem dX5_digest_58 : decode cX5_digest 58 = .ok (.goto (-25), 3) := by decide +kernel
theorem dX5_digest_61 : decode cX5_digest 61 = .ok (.aload_n 0, 1) := by decide +kernel
theorem dX5_digest_62 : decode cX5_digest 62 = .ok (.getfield 41, 3) := by decide +kernel
theorem dX5_digest_65 : decode cX5_digest 65 = .ok (.aload_n 0, 1) := by decide +kernel
theorem dX5_digest_66 : decode cX5_digest 66 = .ok (.getfield 10, 3) := by decide +kernel
theorem dX5_digest_69 : decode cX5_digest 69 = .ok (.invokevirtual 203, 3) := by decide +kernel
theorem dX5_digest_72 : decode cX5_digest 72 = .ok (.aload_n 0, 1) := by decide +kernel
theorem dX5_digest_73 : decode cX5_digest 73 = .ok (.lload_n 1, 1) := by decide +kernel
theorem dX5_digest_74 : decode cX5_digest 74 = .ok (.invokevirtual 235, 3) := by decide +kernel
theorem dX5_digest_77 : decode cX5_digest 77 = .ok (.lstore_n 1, 1) := by decide +kernel
theorem dX5_digest_78 : decode cX5_digest 78 = .ok (.iconst 0, 1) := by decide +kernel
theorem dX5_digest_79 : decode cX5_digest 79 = .ok (.istore_n 3, 1) := by decide +kernel
theorem dX5_digest_80 : decode cX5_digest 80 = .ok (.iload_n 3, 1) := by decide +kernel
theorem dX5_digest_81 : decode cX5_digest 81 = .ok (.aload_n 0, 1) := by decide +kernel
theorem dX5_digest_82 : decode cX5_digest 82 = .ok (.getfield 10, 3) := by decide +kernel
theorem dX5_digest_85 : decode cX5_digest 85 = .ok (.getfield 78, 3) := by decide +kernel
theorem dX5_digest_88 : decode cX5_digest 88 = .ok (.if_icmp .ge 16, 3) := by decide +kernel
theorem dX5_digest_91 : decode cX5_digest 91 = .ok (.aload_n 0, 1) := by decide +kernel
theorem dX5_digest_92 : decode cX5_digest 92 = .ok (.lload_n 1, 1) := by decide +kernel
theorem dX5_digest_93 : decode cX5_digest 93 = .ok (.iload_n 3, 1) := by decide +kernel
theorem dX5_digest_94 : decode cX5_digest 94 = .ok (.invokevirtual 239, 3) := by decide +kernel
theorem dX5_digest_97 : decode cX5_digest 97 = .ok (.lstore_n 1, 1) := by decide +kernel
theorem dX5_digest_98 : decode cX5_digest 98 = .ok (.iinc 3 1, 3) := by decide +kernel
theorem dX5_digest_101 : decode cX5_digest 101 = .ok (.goto (-21), 3) := by decide +kernel
theorem dX5_digest_104 : decode cX5_digest 104 = .ok (.ldc2_w 233, 3) := by decide +kernel
theorem dX5_digest_107 : decode cX5_digest 107 = .ok (.lload_n 1, 1) := by decide +kernel
theorem dX5_digest_108 : decode cX5_digest 108 = .ok (.lmul, 1) := by decide +kernel
theorem dX5_digest_109 : decode cX5_digest 109 = .ok (.aload_n 0, 1) := by decide +kernel
theorem dX5_digest_110 : decode cX5_digest 110 = .ok (.getfield 10, 3) := by decide +kernel
theorem dX5_digest_113 : decode cX5_digest 113 = .ok (.invokevirtual 221, 3) := by decide +kernel
theorem dX5_digest_116 : decode cX5_digest 116 = .ok (.i2l, 1) := by decide +kernel
theorem dX5_digest_117 : decode cX5_digest 117 = .ok (.ladd, 1) := by decide +kernel
theorem dX5_digest_118 : decode cX5_digest 118 = .ok (.lstore_n 1, 1) := by decide +kernel
theorem dX5_digest_119 : decode cX5_digest 119 = .ok (.ldc2_w 233, 3) := by decide +kernel
theorem dX5_digest_122 : decode cX5_digest 122 = .ok (.lload_n 1, 1) := by decide +kernel
theorem dX5_digest_123 : decode cX5_digest 123 = .ok (.lmul, 1) := by decide +kernel
theorem dX5_digest_124 : decode cX5_digest 124 = .ok (.aload_n 0, 1) := by decide +kernel
theorem dX5_digest_125 : decode cX5_digest 125 = .ok (.getfield 10, 3) := by decide +kernel
theorem dX5_digest_128 : decode cX5_digest 128 = .ok (.invokevirtual 224, 3) := by decide +kernel
theorem dX5_digest_131 : decode cX5_digest 131 = .ok (.i2l, 1) := by decide +kernel
theorem dX5_digest_132 : decode cX5_digest 132 = .ok (.ladd, 1) := by decide +kernel
theorem dX5_digest_133 : decode cX5_digest 133 = .ok (.lstore_n 1, 1) := by decide +kernel
theorem dX5_digest_134 : decode cX5_digest 134 = .ok (.ldc2_w 233, 3) := by decide +kernel
theorem dX5_digest_137 : decode cX5_digest 137 = .ok (.lload_n 1, 1) := by decide +kernel
theorem dX5_digest_138 : decode cX5_digest 138 = .ok (.lmul, 1) := by decide +kernel
theorem dX5_digest_139 : decode cX5_digest 139 = .ok (.aload_n 0, 1) := by decide +kernel
theorem dX5_digest_140 : decode cX5_digest 140 = .ok (.getfield 10, 3) := by decide +kernel
theorem dX5_digest_143 : decode cX5_digest 143 = .ok (.invokevirtual 227, 3) := by decide +kernel
theorem dX5_digest_146 : decode cX5_digest 146 = .ok (.invokestatic 243, 3) := by decide +kernel
theorem dX5_digest_149 : decode cX5_digest 149 = .ok (.ladd, 1) := by decide +kernel
theorem dX5_digest_150 : decode cX5_digest 150 = .ok (.lstore_n 1, 1) := by decide +kernel
theorem dX5_digest_151 : decode cX5_digest 151 = .ok (.iconst 0, 1) := by decide +kernel
theorem dX5_digest_152 : decode cX5_digest 152 = .ok (.istore_n 3, 1) := by decide +kernel
theorem dX5_digest_153 : decode cX5_digest 153 = .ok (.iload_n 3, 1) := by decide +kernel
theorem dX5_digest_154 : decode cX5_digest 154 = .ok (.iconst 2, 1) := by decide +kernel
theorem dX5_digest_155 : decode cX5_digest 155 = .ok (.if_icmp .ge 30, 3) := by decide +kernel
theorem dX5_digest_158 : decode cX5_digest 158 = .ok (.ldc2_w 233, 3) := by decide +kernel
theorem dX5_digest_161 : decode cX5_digest 161 = .ok (.lload_n 1, 1) := by decide +kernel
theorem dX5_digest_162 : decode cX5_digest 162 = .ok (.lmul, 1) := by decide +kernel
theorem dX5_digest_163 : decode cX5_digest 163 = .ok (.aload_n 0, 1) := by decide +kernel
theorem dX5_digest_164 : decode cX5_digest 164 = .ok (.getfield 20, 3) := by decide +kernel
theorem dX5_digest_167 : decode cX5_digest 167 = .ok (.iload_n 3, 1) := by decide +kernel
theorem dX5_digest_168 : decode cX5_digest 168 = .ok (.baload, 1) := by decide +kernel
theorem dX5_digest_169 : decode cX5_digest 169 = .ok (.ifCond .eq 7, 3) := by decide +kernel
theorem dX5_digest_172 : decode cX5_digest 172 = .ok (.lconst 1, 1) := by decide +kernel
theorem dX5_digest_173 : decode cX5_digest 173 = .ok (.goto 4, 3) := by decide +kernel
theorem dX5_digest_176 : decode cX5_digest 176 = .ok (.lconst 0, 1) := by decide +kernel
theorem dX5_digest_177 : decode cX5_digest 177 = .ok (.ladd, 1) := by decide +kernel
theorem dX5_digest_178 : decode cX5_digest 178 = .ok (.lstore_n 1, 1) := by decide +kernel
theorem dX5_digest_179 : decode cX5_digest 179 = .ok (.iinc 3 1, 3) := by decide +kernel
theorem dX5_digest_182 : decode cX5_digest 182 = .ok (.goto (-29), 3) := by decide +kernel
theorem dX5_digest_185 : decode cX5_digest 185 = .ok (.ldc2_w 233, 3) := by decide +kernel
theorem dX5_digest_188 : decode cX5_digest 188 = .ok (.lload_n 1, 1) := by decide +kernel
theorem dX5_digest_189 : decode cX5_digest 189 = .ok (.lmul, 1) := by decide +kernel
theorem dX5_digest_190 : decode cX5_digest 190 = .ok (.aload_n 0, 1) := by decide +kernel
theorem dX5_digest_191 : decode cX5_digest 191 = .ok (.getfield 34, 3) := by decide +kernel
theorem dX5_digest_194 : decode cX5_digest 194 = .ok (.getfield 136, 3) := by decide +kernel
theorem dX5_digest_197 : decode cX5_digest 197 = .ok (.i2l, 1) := by decide +kernel
theorem dX5_digest_198 : decode cX5_digest 198 = .ok (.ladd, 1) := by decide +kernel
theorem dX5_digest_199 : decode cX5_digest 199 = .ok (.lstore_n 1, 1) := by decide +kernel
theorem dX5_digest_200 : decode cX5_digest 200 = .ok (.iconst 0, 1) := by decide +kernel
theorem dX5_digest_201 : decode cX5_digest 201 = .ok (.istore_n 3, 1) := by decide +kernel
theorem dX5_digest_202 : decode cX5_digest 202 = .ok (.iload_n 3, 1) := by decide +kernel
theorem dX5_digest_203 : decode cX5_digest 203 = .ok (.aload_n 0, 1) := by decide +kernel
theorem dX5_digest_204 : decode cX5_digest 204 = .ok (.getfield 34, 3) := by decide +kernel
theorem dX5_digest_207 : decode cX5_digest 207 = .ok (.getfield 136, 3) := by decide +kernel
theorem dX5_digest_210 : decode cX5_digest 210 = .ok (.if_icmp .ge 25, 3) := by decide +kernel
theorem dX5_digest_213 : decode cX5_digest 213 = .ok (.ldc2_w 233, 3) := by decide +kernel
theorem dX5_digest_216 : decode cX5_digest 216 = .ok (.lload_n 1, 1) := by decide +kernel
theorem dX5_digest_217 : decode cX5_digest 217 = .ok (.lmul, 1) := by decide +kernel
theorem dX5_digest_218 : decode cX5_digest 218 = .ok (.aload_n 0, 1) := by decide +kernel
theorem dX5_digest_219 : decode cX5_digest 219 = .ok (.getfield 34, 3) := by decide +kernel
theorem dX5_digest_222 : decode cX5_digest 222 = .ok (.iload_n 3, 1) := by decide +kernel
theorem dX5_digest_223 : decode cX5_digest 223 = .ok (.invokevirtual 155, 3) := by decide +kernel
theorem dX5_digest_226 : decode cX5_digest 226 = .ok (.i2l, 1) := by decide +kernel
theorem dX5_digest_227 : decode cX5_digest 227 = .ok (.ladd, 1) := by decide +kernel
theorem dX5_digest_228 : decode cX5_digest 228 = .ok (.lstore_n 1, 1) := by decide +kernel
theorem dX5_digest_229 : decode cX5_digest 229 = .ok (.iinc 3 1, 3) := by decide +kernel
theorem dX5_digest_232 : decode cX5_digest 232 = .ok (.goto (-30), 3) := by decide +kernel
theorem dX5_digest_235 : decode cX5_digest 235 = .ok (.lload_n 1, 1) := by decide +kernel
theorem dX5_digest_236 : decode cX5_digest 236 = .ok (.lreturn, 1) := by decide +kernel
theorem dX5_isTower_0 : decode cX5_isTower 0 = .ok (.iload_n 0, 1) := by decide +kernel
theorem dX5_isTower_1 : decode cX5_isTower 1 = .ok (.ifCond .lt 13, 3) := by decide +kernel
theorem dX5_isTower_4 : decode cX5_isTower 4 = .ok (.iload_n 0, 1) := by decide +kernel
theorem dX5_isTower_5 : decode cX5_isTower 5 = .ok (.bipush 10, 2) := by decide +kernel
theorem dX5_isTower_7 : decode cX5_isTower 7 = .ok (.if_icmp .ge 7, 3) := by decide +kernel
theorem dX5_isTower_10 : decode cX5_isTower 10 = .ok (.iconst 1, 1) := by decide +kernel
theorem dX5_isTower_11 : decode cX5_isTower 11 = .ok (.goto 4, 3) := by decide +kernel
theorem dX5_isTower_14 : decode cX5_isTower 14 = .ok (.iconst 0, 1) := by decide +kernel
theorem dX5_isTower_15 : decode cX5_isTower 15 = .ok (.ireturn, 1) := by decide +kernel
theorem dX5_isSetting_0 : decode cX5_isSetting 0 = .ok (.iload_n 0, 1) := by decide +kernel
theorem dX5_isSetting_1 : decode cX5_isSetting 1 = .ok (.ifCond .lt 12, 3) := by decide +kernel
theorem dX5_isSetting_4 : decode cX5_isSetting 4 = .ok (.iload_n 0, 1) := by decide +kernel
theorem dX5_isSetting_5 : decode cX5_isSetting 5 = .ok (.iconst 4, 1) := by decide +kernel
theorem dX5_isSetting_6 : decode cX5_isSetting 6 = .ok (.if_icmp .ge 7, 3) := by decide +kernel
theorem dX5_isSetting_9 : decode cX5_isSetting 9 = .ok (.iconst 1, 1) := by decide +kernel
theorem dX5_isSetting_10 : decode cX5_isSetting 10 = .ok (.goto 4, 3) := by decide +kernel
theorem dX5_isSetting_13 : decode cX5_isSetting 13 = .ok (.iconst 0, 1) := by decide +kernel
theorem dX5_isSetting_14 : decode cX5_isSetting 14 = .ok (.ireturn, 1) := by decide +kernel
theorem dX5_playMove_0 : decode cX5_playMove 0 = .ok (.aload_n 0, 1) := by decide +kernel
theorem dX5_playMove_1 : decode cX5_playMove 1 = .ok (.getfield 10, 3) := by decide +kernel
theorem dX5_playMove_4 : decode cX5_playMove 4 = .ok (.invokevirtual 107, 3) := by decide +kernel
theorem dX5_playMove_7 : decode cX5_playMove 7 = .ok (.ifCond .ne 5, 3) := by decide +kernel
theorem dX5_playMove_10 : decode cX5_playMove 10 = .ok (.iconst 0, 1) := by decide +kernel
theorem dX5_playMove_11 : decode cX5_playMove 11 = .ok (.ireturn, 1) := by decide +kernel
theorem dX5_playMove_12 : decode cX5_playMove 12 = .ok (.iload_n 1, 1) := by decide +kernel
theorem dX5_playMove_13 : decode cX5_playMove 13 = .ok (.lookupswitch 85 #[(111, 45), (115, 61), (119, 35)], 35) := by decide +kernel
theorem dX5_playMove_48 : decode cX5_playMove 48 = .ok (.aload_n 0, 1) := by decide +kernel
theorem dX5_playMove_49 : decode cX5_playMove 49 = .ok (.getfield 10, 3) := by decide +kernel
theorem dX5_playMove_52 : decode cX5_playMove 52 = .ok (.invokevirtual 113, 3) := by decide +kernel
theorem dX5_playMove_55 : decode cX5_playMove 55 = .ok (.pop, 1) := by decide +kernel
theorem dX5_playMove_56 : decode cX5_playMove 56 = .ok (.iconst 1, 1) := by decide +kernel
theorem dX5_playMove_57 : decode cX5_playMove 57 = .ok (.ireturn, 1) := by decide +kernel
theorem dX5_playMove_58 : decode cX5_playMove 58 = .ok (.aload_n 0, 1) := by decide +kernel
theorem dX5_playMove_59 : decode cX5_playMove 59 = .ok (.getfield 10, 3) := by decide +kernel
theorem dX5_playMove_62 : decode cX5_playMove 62 = .ok (.invokevirtual 121, 3) := by decide +kernel
theorem dX5_playMove_65 : decode cX5_playMove 65 = .ok (.ifCond .ne 7, 3) := by decide +kernel
theorem dX5_playMove_68 : decode cX5_playMove 68 = .ok (.iconst 1, 1) := by decide +kernel
theorem dX5_playMove_69 : decode cX5_playMove 69 = .ok (.goto 4, 3) := by decide +kernel
theorem dX5_playMove_72 : decode cX5_playMove 72 = .ok (.iconst 0, 1) := by decide +kernel
theorem dX5_playMove_73 : decode cX5_playMove 73 = .ok (.ireturn, 1) := by decide +kernel
theorem dX5_playMove_74 : decode cX5_playMove 74 = .ok (.iload_n 2, 1) := by decide +kernel
theorem dX5_playMove_75 : decode cX5_playMove 75 = .ok (.invokestatic 52, 3) := by decide +kernel
theorem dX5_playMove_78 : decode cX5_playMove 78 = .ok (.ifCond .eq 18, 3) := by decide +kernel
theorem dX5_playMove_81 : decode cX5_playMove 81 = .ok (.aload_n 0, 1) := by decide +kernel
theorem dX5_playMove_82 : decode cX5_playMove 82 = .ok (.getfield 10, 3) := by decide +kernel
theorem dX5_playMove_85 : decode cX5_playMove 85 = .ok (.iload_n 2, 1) := by decide +kernel
theorem dX5_playMove_86 : decode cX5_playMove 86 = .ok (.invokevirtual 117, 3) := by decide +kernel
theorem dX5_playMove_89 : decode cX5_playMove 89 = .ok (.ifCond .ne 7, 3) := by decide +kernel
theorem dX5_playMove_92 : decode cX5_playMove 92 = .ok (.iconst 1, 1) := by decide +kernel
theorem dX5_playMove_93 : decode cX5_playMove 93 = .ok (.goto 4, 3) := by decide +kernel
theorem dX5_playMove_96 : decode cX5_playMove 96 = .ok (.iconst 0, 1) := by decide +kernel
theorem dX5_playMove_97 : decode cX5_playMove 97 = .ok (.ireturn, 1) := by decide +kernel
theorem dX5_playMove_98 : decode cX5_playMove 98 = .ok (.aload_n 0, 1) := by decide +kernel
theorem dX5_playMove_99 : decode cX5_playMove 99 = .ok (.getfield 10, 3) := by decide +kernel
theorem dX5_playMove_102 : decode cX5_playMove 102 = .ok (.iload_n 2, 1) := by decide +kernel
theorem dX5_playMove_103 : decode cX5_playMove 103 = .ok (.invokevirtual 124, 3) := by decide +kernel
theorem dX5_playMove_106 : decode cX5_playMove 106 = .ok (.ifCond .eq 18, 3) := by decide +kernel
theorem dX5_playMove_109 : decode cX5_playMove 109 = .ok (.aload_n 0, 1) := by decide +kernel
theorem dX5_playMove_110 : decode cX5_playMove 110 = .ok (.getfield 10, 3) := by decide +kernel
theorem dX5_playMove_113 : decode cX5_playMove 113 = .ok (.iload_n 2, 1) := by decide +kernel
theorem dX5_playMove_114 : decode cX5_playMove 114 = .ok (.invokevirtual 131, 3) := by decide +kernel
theorem dX5_playMove_117 : decode cX5_playMove 117 = .ok (.ifCond .ne 7, 3) := by decide +kernel
theorem dX5_playMove_120 : decode cX5_playMove 120 = .ok (.iconst 1, 1) := by decide +kernel
theorem dX5_playMove_121 : decode cX5_playMove 121 = .ok (.goto 4, 3) := by decide +kernel
theorem dX5_playMove_124 : decode cX5_playMove 124 = .ok (.iconst 0, 1) := by decide +kernel
theorem dX5_playMove_125 : decode cX5_playMove 125 = .ok (.ireturn, 1) := by decide +kernel
theorem dX5_towerProperty_0 : decode cX5_towerProperty 0 = .ok (.iload_n 2, 1) := by decide +kernel
theorem dX5_towerProperty_1 : decode cX5_towerProperty 1 = .ok (.tableswitch 56 0 2 #[27, 37, 47], 27) := by decide +kernel
theorem dX5_towerProperty_28 : decode cX5_towerProperty 28 = .ok (.aload_n 0, 1) := by decide +kernel
theorem dX5_towerProperty_29 : decode cX5_towerProperty 29 = .ok (.getfield 10, 3) := by decide +kernel
theorem dX5_towerProperty_32 : decode cX5_towerProperty 32 = .ok (.getfield 72, 3) := by decide +kernel
theorem dX5_towerProperty_35 : decode cX5_towerProperty 35 = .ok (.iload_n 1, 1) := by decide +kernel
theorem dX5_towerProperty_36 : decode cX5_towerProperty 36 = .ok (.iaload, 1) := by decide +kernel
theorem dX5_towerProperty_37 : decode cX5_towerProperty 37 = .ok (.ireturn, 1) := by decide +kernel
theorem dX5_towerProperty_38 : decode cX5_towerProperty 38 = .ok (.aload_n 0, 1) := by decide +kernel
theorem dX5_towerProperty_39 : decode cX5_towerProperty 39 = .ok (.getfield 10, 3) := by decide +kernel
theorem dX5_towerProperty_42 : decode cX5_towerProperty 42 = .ok (.getfield 247, 3) := by decide +kernel
theorem dX5_towerProperty_45 : decode cX5_towerProperty 45 = .ok (.iload_n 1, 1) := by decide +kernel
theorem dX5_towerProperty_46 : decode cX5_towerProperty 46 = .ok (.iaload, 1) := by decide +kernel
theorem dX5_towerProperty_47 : decode cX5_towerProperty 47 = .ok (.ireturn, 1) := by decide +kernel
theorem dX5_towerProperty_48 : decode cX5_towerProperty 48 = .ok (.aload_n 0, 1) := by decide +kernel
theorem dX5_towerProperty_49 : decode cX5_towerProperty 49 = .ok (.getfield 10, 3) := by decide +kernel
theorem dX5_towerProperty_52 : decode cX5_towerProperty 52 = .ok (.iload_n 1, 1) := by decide +kernel
theorem dX5_towerProperty_53 : decode cX5_towerProperty 53 = .ok (.invokevirtual 250, 3) := by decide +kernel
theorem dX5_towerProperty_56 : decode cX5_towerProperty 56 = .ok (.ireturn, 1) := by decide +kernel
theorem dX5_towerProperty_57 : decode cX5_towerProperty 57 = .ok (.aload_n 0, 1) := by decide +kernel
theorem dX5_towerProperty_58 : decode cX5_towerProperty 58 = .ok (.getfield 10, 3) := by decide +kernel
theorem dX5_towerProperty_61 : decode cX5_towerProperty 61 = .ok (.iload_n 1, 1) := by decide +kernel
theorem dX5_towerProperty_62 : decode cX5_towerProperty 62 = .ok (.invokevirtual 253, 3) := by decide +kernel
theorem dX5_towerProperty_65 : decode cX5_towerProperty 65 = .ok (.ireturn, 1) := by decide +kernel
theorem dX5_playerProperty_0 : decode cX5_playerProperty 0 = .ok (.iload_n 2, 1) := by decide +kernel
theorem dX5_playerProperty_1 : decode cX5_playerProperty 1 = .ok (.tableswitch 134 0 7 #[47, 57, 67, 77, 94, 104, 114, 124], 47) := by decide +kernel
theorem dX5_playerProperty_48 : decode cX5_playerProperty 48 = .ok (.aload_n 0, 1) := by decide +kernel
theorem dX5_playerProperty_49 : decode cX5_playerProperty 49 = .ok (.getfield 10, 3) := by decide +kernel
theorem dX5_playerProperty_52 : decode cX5_playerProperty 52 = .ok (.getfield 256, 3) := by decide +kernel
theorem dX5_playerProperty_55 : decode cX5_playerProperty 55 = .ok (.iload_n 1, 1) := by decide +kernel
theorem dX5_playerProperty_56 : decode cX5_playerProperty 56 = .ok (.iaload, 1) := by decide +kernel
theorem dX5_playerProperty_57 : decode cX5_playerProperty 57 = .ok (.ireturn, 1) := by decide +kernel
theorem dX5_playerProperty_58 : decode cX5_playerProperty 58 = .ok (.aload_n 0, 1) := by decide +kernel
theorem dX5_playerProperty_59 : decode cX5_playerProperty 59 = .ok (.getfield 10, 3) := by decide +kernel
theorem dX5_playerProperty_62 : decode cX5_playerProperty 62 = .ok (.getfield 259, 3) := by decide +kernel
theorem dX5_playerProperty_65 : decode cX5_playerProperty 65 = .ok (.iload_n 1, 1) := by decide +kernel
theorem dX5_playerProperty_66 : decode cX5_playerProperty 66 = .ok (.iaload, 1) := by decide +kernel
theorem dX5_playerProperty_67 : decode cX5_playerProperty 67 = .ok (.ireturn, 1) := by decide +kernel
theorem dX5_playerProperty_68 : decode cX5_playerProperty 68 = .ok (.aload_n 0, 1) := by decide +kernel
theorem dX5_playerProperty_69 : decode cX5_playerProperty 69 = .ok (.getfield 10, 3) := by decide +kernel
theorem dX5_playerProperty_72 : decode cX5_playerProperty 72 = .ok (.getfield 262, 3) := by decide +kernel
theorem dX5_playerProperty_75 : decode cX5_playerProperty 75 = .ok (.iload_n 1, 1) := by decide +kernel
theorem dX5_playerProperty_76 : decode cX5_playerProperty 76 = .ok (.iaload, 1) := by decide +kernel
theorem dX5_playerProperty_77 : decode cX5_playerProperty 77 = .ok (.ireturn, 1) := by decide +kernel
theorem dX5_playerProperty_78 : decode cX5_playerProperty 78 = .ok (.aload_n 0, 1) := by decide +kernel
theorem dX5_playerProperty_79 : decode cX5_playerProperty 79 = .ok (.getfield 10, 3) := by decide +kernel
theorem dX5_playerProperty_82 : decode cX5_playerProperty 82 = .ok (.getfield 265, 3) := by decide +kernel
theorem dX5_playerProperty_85 : decode cX5_playerProperty 85 = .ok (.iload_n 1, 1) := by decide +kernel
theorem dX5_playerProperty_86 : decode cX5_playerProperty 86 = .ok (.if_icmp .ne 7, 3) := by decide +kernel
theorem dX5_playerProperty_89 : decode cX5_playerProperty 89 = .ok (.iconst 1, 1) := by decide +kernel
theorem dX5_playerProperty_90 : decode cX5_playerProperty 90 = .ok (.goto 4, 3) := by decide +kernel
theorem dX5_playerProperty_93 : decode cX5_playerProperty 93 = .ok (.iconst 0, 1) := by decide +kernel
theorem dX5_playerProperty_94 : decode cX5_playerProperty 94 = .ok (.ireturn, 1) := by decide +kernel
theorem dX5_playerProperty_95 : decode cX5_playerProperty 95 = .ok (.aload_n 0, 1) := by decide +kernel
theorem dX5_playerProperty_96 : decode cX5_playerProperty 96 = .ok (.getfield 10, 3) := by decide +kernel
theorem dX5_playerProperty_99 : decode cX5_playerProperty 99 = .ok (.getfield 268, 3) := by decide +kernel
theorem dX5_playerProperty_102 : decode cX5_playerProperty 102 = .ok (.iload_n 1, 1) := by decide +kernel
theorem dX5_playerProperty_103 : decode cX5_playerProperty 103 = .ok (.iaload, 1) := by decide +kernel
theorem dX5_playerProperty_104 : decode cX5_playerProperty 104 = .ok (.ireturn, 1) := by decide +kernel
theorem dX5_playerProperty_105 : decode cX5_playerProperty 105 = .ok (.aload_n 0, 1) := by decide +kernel
theorem dX5_playerProperty_106 : decode cX5_playerProperty 106 = .ok (.getfield 10, 3) := by decide +kernel
theorem dX5_playerProperty_109 : decode cX5_playerProperty 109 = .ok (.getfield 271, 3) := by decide +kernel
theorem dX5_playerProperty_112 : decode cX5_playerProperty 112 = .ok (.iload_n 1, 1) := by decide +kernel
theorem dX5_playerProperty_113 : decode cX5_playerProperty 113 = .ok (.iaload, 1) := by decide +kernel
theorem dX5_playerProperty_114 : decode cX5_playerProperty 114 = .ok (.ireturn, 1) := by decide +kernel
theorem dX5_playerProperty_115 : decode cX5_playerProperty 115 = .ok (.aload_n 0, 1) := by decide +kernel
theorem dX5_playerProperty_116 : decode cX5_playerProperty 116 = .ok (.getfield 10, 3) := by decide +kernel
theorem dX5_playerProperty_119 : decode cX5_playerProperty 119 = .ok (.getfield 274, 3) := by decide +kernel
theorem dX5_playerProperty_122 : decode cX5_playerProperty 122 = .ok (.iload_n 1, 1) := by decide +kernel
theorem dX5_playerProperty_123 : decode cX5_playerProperty 123 = .ok (.iaload, 1) := by decide +kernel
theorem dX5_playerProperty_124 : decode cX5_playerProperty 124 = .ok (.ireturn, 1) := by decide +kernel
theorem dX5_playerProperty_125 : decode cX5_playerProperty 125 = .ok (.aload_n 0, 1) := by decide +kernel
theorem dX5_playerProperty_126 : decode cX5_playerProperty 126 = .ok (.getfield 10, 3) := by decide +kernel
theorem dX5_playerProperty_129 : decode cX5_playerProperty 129 = .ok (.getfield 277, 3) := by decide +kernel
theorem dX5_playerProperty_132 : decode cX5_playerProperty 132 = .ok (.iload_n 1, 1) := by decide +kernel
theorem dX5_playerProperty_133 : decode cX5_playerProperty 133 = .ok (.iaload, 1) := by decide +kernel
theorem dX5_playerProperty_134 : decode cX5_playerProperty 134 = .ok (.ireturn, 1) := by decide +kernel
theorem dX5_playerProperty_135 : decode cX5_playerProperty 135 = .ok (.aload_n 0, 1) := by decide +kernel
theorem dX5_playerProperty_136 : decode cX5_playerProperty 136 = .ok (.getfield 10, 3) := by decide +kernel
theorem dX5_playerProperty_139 : decode cX5_playerProperty 139 = .ok (.iload_n 1, 1) := by decide +kernel
theorem dX5_playerProperty_140 : decode cX5_playerProperty 140 = .ok (.invokevirtual 280, 3) := by decide +kernel
theorem dX5_playerProperty_143 : decode cX5_playerProperty 143 = .ok (.ireturn, 1) := by decide +kernel
theorem dX5_number_0 : decode cX5_number 0 = .ok (.iload_n 1, 1) := by decide +kernel
theorem dX5_number_1 : decode cX5_number 1 = .ok (.tableswitch 171 0 9 #[55, 63, 85, 107, 115, 123, 131, 147, 155, 163], 55) := by decide +kernel
theorem dX5_number_56 : decode cX5_number 56 = .ok (.aload_n 0, 1) := by decide +kernel
theorem dX5_number_57 : decode cX5_number 57 = .ok (.getfield 10, 3) := by decide +kernel
theorem dX5_number_60 : decode cX5_number 60 = .ok (.getfield 78, 3) := by decide +kernel
theorem dX5_number_63 : decode cX5_number 63 = .ok (.ireturn, 1) := by decide +kernel
theorem dX5_number_64 : decode cX5_number 64 = .ok (.aload_n 0, 1) := by decide +kernel
theorem dX5_number_65 : decode cX5_number 65 = .ok (.getfield 10, 3) := by decide +kernel
theorem dX5_number_68 : decode cX5_number 68 = .ok (.getfield 78, 3) := by decide +kernel
theorem dX5_number_71 : decode cX5_number 71 = .ok (.ifCond .le 13, 3) := by decide +kernel
theorem dX5_number_74 : decode cX5_number 74 = .ok (.aload_n 0, 1) := by decide +kernel
theorem dX5_number_75 : decode cX5_number 75 = .ok (.getfield 10, 3) := by decide +kernel
theorem dX5_number_78 : decode cX5_number 78 = .ok (.getfield 283, 3) := by decide +kernel
theorem dX5_number_81 : decode cX5_number 81 = .ok (.goto 4, 3) := by decide +kernel
theorem dX5_number_84 : decode cX5_number 84 = .ok (.iconst (-1), 1) := by decide +kernel
theorem dX5_number_85 : decode cX5_number 85 = .ok (.ireturn, 1) := by decide +kernel
theorem dX5_number_86 : decode cX5_number 86 = .ok (.aload_n 0, 1) := by decide +kernel
theorem dX5_number_87 : decode cX5_number 87 = .ok (.getfield 10, 3) := by decide +kernel
theorem dX5_number_90 : decode cX5_number 90 = .ok (.getfield 78, 3) := by decide +kernel
theorem dX5_number_93 : decode cX5_number 93 = .ok (.ifCond .le 13, 3) := by decide +kernel
theorem dX5_number_96 : decode cX5_number 96 = .ok (.aload_n 0, 1) := by decide +kernel
theorem dX5_number_97 : decode cX5_number 97 = .ok (.getfield 10, 3) := by decide +kernel
theorem dX5_number_100 : decode cX5_number 100 = .ok (.getfield 265, 3) := by decide +kernel
theorem dX5_number_103 : decode cX5_number 103 = .ok (.goto 4, 3) := by decide +kernel
theorem dX5_number_106 : decode cX5_number 106 = .ok (.iconst (-1), 1) := by decide +kernel
theorem dX5_number_107 : decode cX5_number 107 = .ok (.ireturn, 1) := by decide +kernel
theorem dX5_number_108 : decode cX5_number 108 = .ok (.aload_n 0, 1) := by decide +kernel
theorem dX5_number_109 : decode cX5_number 109 = .ok (.getfield 10, 3) := by decide +kernel
theorem dX5_number_112 : decode cX5_number 112 = .ok (.getfield 173, 3) := by decide +kernel
theorem dX5_number_115 : decode cX5_number 115 = .ok (.ireturn, 1) := by decide +kernel
theorem dX5_number_116 : decode cX5_number 116 = .ok (.aload_n 0, 1) := by decide +kernel
theorem dX5_number_117 : decode cX5_number 117 = .ok (.getfield 10, 3) := by decide +kernel
theorem dX5_number_120 : decode cX5_number 120 = .ok (.getfield 286, 3) := by decide +kernel
theorem dX5_number_123 : decode cX5_number 123 = .ok (.ireturn, 1) := by decide +kernel
theorem dX5_number_124 : decode cX5_number 124 = .ok (.aload_n 0, 1) := by decide +kernel
theorem dX5_number_125 : decode cX5_number 125 = .ok (.getfield 10, 3) := by decide +kernel
theorem dX5_number_128 : decode cX5_number 128 = .ok (.getfield 289, 3) := by decide +kernel
theorem dX5_number_131 : decode cX5_number 131 = .ok (.ireturn, 1) := by decide +kernel
theorem dX5_number_132 : decode cX5_number 132 = .ok (.aload_n 0, 1) := by decide +kernel
theorem dX5_number_133 : decode cX5_number 133 = .ok (.getfield 10, 3) := by decide +kernel
theorem dX5_number_136 : decode cX5_number 136 = .ok (.invokevirtual 292, 3) := by decide +kernel
theorem dX5_number_139 : decode cX5_number 139 = .ok (.aload_n 0, 1) := by decide +kernel
theorem dX5_number_140 : decode cX5_number 140 = .ok (.getfield 10, 3) := by decide +kernel
theorem dX5_number_143 : decode cX5_number 143 = .ok (.invokevirtual 295, 3) := by decide +kernel
theorem dX5_number_146 : decode cX5_number 146 = .ok (.iadd, 1) := by decide +kernel
theorem dX5_number_147 : decode cX5_number 147 = .ok (.ireturn, 1) := by decide +kernel
theorem dX5_number_148 : decode cX5_number 148 = .ok (.aload_n 0, 1) := by decide +kernel
theorem dX5_number_149 : decode cX5_number 149 = .ok (.getfield 10, 3) := by decide +kernel
theorem dX5_number_152 : decode cX5_number 152 = .ok (.invokevirtual 292, 3) := by decide +kernel
theorem dX5_number_155 : decode cX5_number 155 = .ok (.ireturn, 1) := by decide +kernel
theorem dX5_number_156 : decode cX5_number 156 = .ok (.aload_n 0, 1) := by decide +kernel
theorem dX5_number_157 : decode cX5_number 157 = .ok (.getfield 10, 3) := by decide +kernel
theorem dX5_number_160 : decode cX5_number 160 = .ok (.invokevirtual 295, 3) := by decide +kernel
theorem dX5_number_163 : decode cX5_number 163 = .ok (.ireturn, 1) := by decide +kernel
theorem dX5_number_164 : decode cX5_number 164 = .ok (.aload_n 0, 1) := by decide +kernel
theorem dX5_number_165 : decode cX5_number 165 = .ok (.getfield 10, 3) := by decide +kernel
theorem dX5_number_168 : decode cX5_number 168 = .ok (.getfield 298, 3) := by decide +kernel
theorem dX5_number_171 : decode cX5_number 171 = .ok (.ireturn, 1) := by decide +kernel
theorem dX5_number_172 : decode cX5_number 172 = .ok (.aload_n 0, 1) := by decide +kernel
theorem dX5_number_173 : decode cX5_number 173 = .ok (.getfield 27, 3) := by decide +kernel
theorem dX5_number_176 : decode cX5_number 176 = .ok (.getfield 178, 3) := by decide +kernel
theorem dX5_number_179 : decode cX5_number 179 = .ok (.ireturn, 1) := by decide +kernel
theorem dX5_withTowers_0 : decode cX5_withTowers 0 = .ok (.lload_n 1, 1) := by decide +kernel
theorem dX5_withTowers_1 : decode cX5_withTowers 1 = .ok (.lstore_n 3, 1) := by decide +kernel
theorem dX5_withTowers_2 : decode cX5_withTowers 2 = .ok (.iconst 0, 1) := by decide +kernel
theorem dX5_withTowers_3 : decode cX5_withTowers 3 = .ok (.istore 5, 2) := by decide +kernel
theorem dX5_withTowers_5 : decode cX5_withTowers 5 = .ok (.iload 5, 2) := by decide +kernel
theorem dX5_withTowers_7 : decode cX5_withTowers 7 = .ok (.bipush 10, 2) := by decide +kernel
theorem dX5_withTowers_9 : decode cX5_withTowers 9 = .ok (.if_icmp .ge 76, 3) := by decide +kernel
theorem dX5_withTowers_12 : decode cX5_withTowers 12 = .ok (.iconst 0, 1) := by decide +kernel
theorem dX5_withTowers_13 : decode cX5_withTowers 13 = .ok (.istore 6, 2) := by decide +kernel
theorem dX5_withTowers_15 : decode cX5_withTowers 15 = .ok (.iload 6, 2) := by decide +kernel
theorem dX5_withTowers_17 : decode cX5_withTowers 17 = .ok (.iconst 4, 1) := by decide +kernel
theorem dX5_withTowers_18 : decode cX5_withTowers 18 = .ok (.if_icmp .ge 25, 3) := by decide +kernel
theorem dX5_withTowers_21 : decode cX5_withTowers 21 = .ok (.ldc2_w 233, 3) := by decide +kernel
theorem dX5_withTowers_24 : decode cX5_withTowers 24 = .ok (.lload_n 3, 1) := by decide +kernel
theorem dX5_withTowers_25 : decode cX5_withTowers 25 = .ok (.lmul, 1) := by decide +kernel
theorem dX5_withTowers_26 : decode cX5_withTowers 26 = .ok (.aload_n 0, 1) := by decide +kernel
theorem dX5_withTowers_27 : decode cX5_withTowers 27 = .ok (.iload 5, 2) := by decide +kernel
theorem dX5_withTowers_29 : decode cX5_withTowers 29 = .ok (.iload 6, 2) := by decide +kernel
theorem dX5_withTowers_31 : decode cX5_withTowers 31 = .ok (.invokevirtual 188, 3) := by decide +kernel
theorem dX5_withTowers_34 : decode cX5_withTowers 34 = .ok (.i2l, 1) := by decide +kernel
theorem dX5_withTowers_35 : decode cX5_withTowers 35 = .ok (.ladd, 1) := by decide +kernel
theorem dX5_withTowers_36 : decode cX5_withTowers 36 = .ok (.lstore_n 3, 1) := by decide +kernel
theorem dX5_withTowers_37 : decode cX5_withTowers 37 = .ok (.iinc 6 1, 3) := by decide +kernel
theorem dX5_withTowers_40 : decode cX5_withTowers 40 = .ok (.goto (-25), 3) := by decide +kernel
theorem dX5_withTowers_43 : decode cX5_withTowers 43 = .ok (.ldc2_w 233, 3) := by decide +kernel
theorem dX5_withTowers_46 : decode cX5_withTowers 46 = .ok (.lload_n 3, 1) := by decide +kernel
theorem dX5_withTowers_47 : decode cX5_withTowers 47 = .ok (.lmul, 1) := by decide +kernel
theorem dX5_withTowers_48 : decode cX5_withTowers 48 = .ok (.aload_n 0, 1) := by decide +kernel
theorem dX5_withTowers_49 : decode cX5_withTowers 49 = .ok (.getfield 41, 3) := by decide +kernel
theorem dX5_withTowers_52 : decode cX5_withTowers 52 = .ok (.iconst 0, 1) := by decide +kernel
theorem dX5_withTowers_53 : decode cX5_withTowers 53 = .ok (.iload 5, 2) := by decide +kernel
theorem dX5_withTowers_55 : decode cX5_withTowers 55 = .ok (.invokevirtual 206, 3) := by decide +kernel
theorem dX5_withTowers_58 : decode cX5_withTowers 58 = .ok (.i2l, 1) := by decide +kernel
theorem dX5_withTowers_59 : decode cX5_withTowers 59 = .ok (.ladd, 1) := by decide +kernel
theorem dX5_withTowers_60 : decode cX5_withTowers 60 = .ok (.lstore_n 3, 1) := by decide +kernel
theorem dX5_withTowers_61 : decode cX5_withTowers 61 = .ok (.ldc2_w 233, 3) := by decide +kernel
theorem dX5_withTowers_64 : decode cX5_withTowers 64 = .ok (.lload_n 3, 1) := by decide +kernel
theorem dX5_withTowers_65 : decode cX5_withTowers 65 = .ok (.lmul, 1) := by decide +kernel
theorem dX5_withTowers_66 : decode cX5_withTowers 66 = .ok (.aload_n 0, 1) := by decide +kernel
theorem dX5_withTowers_67 : decode cX5_withTowers 67 = .ok (.getfield 41, 3) := by decide +kernel
theorem dX5_withTowers_70 : decode cX5_withTowers 70 = .ok (.iconst 0, 1) := by decide +kernel
theorem dX5_withTowers_71 : decode cX5_withTowers 71 = .ok (.iload 5, 2) := by decide +kernel
theorem dX5_withTowers_73 : decode cX5_withTowers 73 = .ok (.invokevirtual 209, 3) := by decide +kernel
theorem dX5_withTowers_76 : decode cX5_withTowers 76 = .ok (.i2l, 1) := by decide +kernel
theorem dX5_withTowers_77 : decode cX5_withTowers 77 = .ok (.ladd, 1) := by decide +kernel
theorem dX5_withTowers_78 : decode cX5_withTowers 78 = .ok (.lstore_n 3, 1) := by decide +kernel
theorem dX5_withTowers_79 : decode cX5_withTowers 79 = .ok (.iinc 5 1, 3) := by decide +kernel
theorem dX5_withTowers_82 : decode cX5_withTowers 82 = .ok (.goto (-77), 3) := by decide +kernel
theorem dX5_withTowers_85 : decode cX5_withTowers 85 = .ok (.lload_n 3, 1) := by decide +kernel
theorem dX5_withTowers_86 : decode cX5_withTowers 86 = .ok (.lreturn, 1) := by decide +kernel
theorem dX5_withPlayer_0 : decode cX5_withPlayer 0 = .ok (.lload_n 1, 1) := by decide +kernel
theorem dX5_withPlayer_1 : decode cX5_withPlayer 1 = .ok (.lstore 4, 2) := by decide +kernel
theorem dX5_withPlayer_3 : decode cX5_withPlayer 3 = .ok (.iconst 0, 1) := by decide +kernel
theorem dX5_withPlayer_4 : decode cX5_withPlayer 4 = .ok (.istore 6, 2) := by decide +kernel
theorem dX5_withPlayer_6 : decode cX5_withPlayer 6 = .ok (.iload 6, 2) := by decide +kernel
theorem dX5_withPlayer_8 : decode cX5_withPlayer 8 = .ok (.bipush 9, 2) := by decide +kernel
theorem dX5_withPlayer_10 : decode cX5_withPlayer 10 = .ok (.if_icmp .ge 26, 3) := by decide +kernel
theorem dX5_withPlayer_13 : decode cX5_withPlayer 13 = .ok (.ldc2_w 233, 3) := by decide +kernel
theorem dX5_withPlayer_16 : decode cX5_withPlayer 16 = .ok (.lload 4, 2) := by decide +kernel
theorem dX5_withPlayer_18 : decode cX5_withPlayer 18 = .ok (.lmul, 1) := by decide +kernel
theorem dX5_withPlayer_19 : decode cX5_withPlayer 19 = .ok (.aload_n 0, 1) := by decide +kernel
theorem dX5_withPlayer_20 : decode cX5_withPlayer 20 = .ok (.iload_n 3, 1) := by decide +kernel
theorem dX5_withPlayer_21 : decode cX5_withPlayer 21 = .ok (.iload 6, 2) := by decide +kernel
theorem dX5_withPlayer_23 : decode cX5_withPlayer 23 = .ok (.invokevirtual 193, 3) := by decide +kernel
theorem dX5_withPlayer_26 : decode cX5_withPlayer 26 = .ok (.i2l, 1) := by decide +kernel
theorem dX5_withPlayer_27 : decode cX5_withPlayer 27 = .ok (.ladd, 1) := by decide +kernel
theorem dX5_withPlayer_28 : decode cX5_withPlayer 28 = .ok (.lstore 4, 2) := by decide +kernel
theorem dX5_withPlayer_30 : decode cX5_withPlayer 30 = .ok (.iinc 6 1, 3) := by decide +kernel
theorem dX5_withPlayer_33 : decode cX5_withPlayer 33 = .ok (.goto (-27), 3) := by decide +kernel
theorem dX5_withPlayer_36 : decode cX5_withPlayer 36 = .ok (.iconst 0, 1) := by decide +kernel
theorem dX5_withPlayer_37 : decode cX5_withPlayer 37 = .ok (.istore 6, 2) := by decide +kernel
theorem dX5_withPlayer_39 : decode cX5_withPlayer 39 = .ok (.iload 6, 2) := by decide +kernel
theorem dX5_withPlayer_41 : decode cX5_withPlayer 41 = .ok (.bipush 10, 2) := by decide +kernel
theorem dX5_withPlayer_43 : decode cX5_withPlayer 43 = .ok (.if_icmp .ge 29, 3) := by decide +kernel
theorem dX5_withPlayer_46 : decode cX5_withPlayer 46 = .ok (.ldc2_w 233, 3) := by decide +kernel
theorem dX5_withPlayer_49 : decode cX5_withPlayer 49 = .ok (.lload 4, 2) := by decide +kernel
theorem dX5_withPlayer_51 : decode cX5_withPlayer 51 = .ok (.lmul, 1) := by decide +kernel
theorem dX5_withPlayer_52 : decode cX5_withPlayer 52 = .ok (.aload_n 0, 1) := by decide +kernel
theorem dX5_withPlayer_53 : decode cX5_withPlayer 53 = .ok (.getfield 10, 3) := by decide +kernel
theorem dX5_withPlayer_56 : decode cX5_withPlayer 56 = .ok (.iload_n 3, 1) := by decide +kernel
theorem dX5_withPlayer_57 : decode cX5_withPlayer 57 = .ok (.iload 6, 2) := by decide +kernel
theorem dX5_withPlayer_59 : decode cX5_withPlayer 59 = .ok (.invokevirtual 214, 3) := by decide +kernel
theorem dX5_withPlayer_62 : decode cX5_withPlayer 62 = .ok (.i2l, 1) := by decide +kernel
theorem dX5_withPlayer_63 : decode cX5_withPlayer 63 = .ok (.ladd, 1) := by decide +kernel
theorem dX5_withPlayer_64 : decode cX5_withPlayer 64 = .ok (.lstore 4, 2) := by decide +kernel
theorem dX5_withPlayer_66 : decode cX5_withPlayer 66 = .ok (.iinc 6 1, 3) := by decide +kernel
theorem dX5_withPlayer_69 : decode cX5_withPlayer 69 = .ok (.goto (-30), 3) := by decide +kernel
theorem dX5_withPlayer_72 : decode cX5_withPlayer 72 = .ok (.ldc2_w 233, 3) := by decide +kernel
theorem dX5_withPlayer_75 : decode cX5_withPlayer 75 = .ok (.lload 4, 2) := by decide +kernel
theorem dX5_withPlayer_77 : decode cX5_withPlayer 77 = .ok (.lmul, 1) := by decide +kernel
theorem dX5_withPlayer_78 : decode cX5_withPlayer 78 = .ok (.aload_n 0, 1) := by decide +kernel
theorem dX5_withPlayer_79 : decode cX5_withPlayer 79 = .ok (.getfield 48, 3) := by decide +kernel
theorem dX5_withPlayer_82 : decode cX5_withPlayer 82 = .ok (.aload_n 0, 1) := by decide +kernel
theorem dX5_withPlayer_83 : decode cX5_withPlayer 83 = .ok (.getfield 10, 3) := by decide +kernel
theorem dX5_withPlayer_86 : decode cX5_withPlayer 86 = .ok (.aload_n 0, 1) := by decide +kernel
theorem dX5_withPlayer_87 : decode cX5_withPlayer 87 = .ok (.getfield 41, 3) := by decide +kernel
theorem dX5_withPlayer_90 : decode cX5_withPlayer 90 = .ok (.iload_n 3, 1) := by decide +kernel
theorem dX5_withPlayer_91 : decode cX5_withPlayer 91 = .ok (.bipush 9, 2) := by decide +kernel
theorem dX5_withPlayer_93 : decode cX5_withPlayer 93 = .ok (.invokevirtual 217, 3) := by decide +kernel
theorem dX5_withPlayer_96 : decode cX5_withPlayer 96 = .ok (.i2l, 1) := by decide +kernel
theorem dX5_withPlayer_97 : decode cX5_withPlayer 97 = .ok (.ladd, 1) := by decide +kernel
theorem dX5_withPlayer_98 : decode cX5_withPlayer 98 = .ok (.lreturn, 1) := by decide +kernel
theorem dX5_bitsOf_0 : decode cX5_bitsOf 0 = .ok (.dload_n 0, 1) := by decide +kernel
theorem dX5_bitsOf_1 : decode cX5_bitsOf 1 = .ok (.dconst 0, 1) := by decide +kernel
theorem dX5_bitsOf_2 : decode cX5_bitsOf 2 = .ok (.dcmp .g, 1) := by decide +kernel
theorem dX5_bitsOf_3 : decode cX5_bitsOf 3 = .ok (.ifCond .gt 5, 3) := by decide +kernel
theorem dX5_bitsOf_6 : decode cX5_bitsOf 6 = .ok (.lconst 0, 1) := by decide +kernel
theorem dX5_bitsOf_7 : decode cX5_bitsOf 7 = .ok (.lreturn, 1) := by decide +kernel
theorem dX5_bitsOf_8 : decode cX5_bitsOf 8 = .ok (.dload_n 0, 1) := by decide +kernel
theorem dX5_bitsOf_9 : decode cX5_bitsOf 9 = .ok (.dstore_n 2, 1) := by decide +kernel
theorem dX5_bitsOf_10 : decode cX5_bitsOf 10 = .ok (.ldc2_w 301, 3) := by decide +kernel
theorem dX5_bitsOf_13 : decode cX5_bitsOf 13 = .ok (.lstore 4, 2) := by decide +kernel
theorem dX5_bitsOf_15 : decode cX5_bitsOf 15 = .ok (.iconst 0, 1) := by decide +kernel
theorem dX5_bitsOf_16 : decode cX5_bitsOf 16 = .ok (.istore 6, 2) := by decide +kernel
theorem dX5_bitsOf_18 : decode cX5_bitsOf 18 = .ok (.iload 6, 2) := by decide +kernel
theorem dX5_bitsOf_20 : decode cX5_bitsOf 20 = .ok (.sipush 1000, 3) := by decide +kernel
theorem dX5_bitsOf_23 : decode cX5_bitsOf 23 = .ok (.if_icmp .ge 27, 3) := by decide +kernel
theorem dX5_bitsOf_26 : decode cX5_bitsOf 26 = .ok (.dload_n 2, 1) := by decide +kernel
theorem dX5_bitsOf_27 : decode cX5_bitsOf 27 = .ok (.dconst 1, 1) := by decide +kernel
theorem dX5_bitsOf_28 : decode cX5_bitsOf 28 = .ok (.dcmp .g, 1) := by decide +kernel
theorem dX5_bitsOf_29 : decode cX5_bitsOf 29 = .ok (.ifCond .ge 21, 3) := by decide +kernel
theorem dX5_bitsOf_32 : decode cX5_bitsOf 32 = .ok (.dload_n 2, 1) := by decide +kernel
theorem dX5_bitsOf_33 : decode cX5_bitsOf 33 = .ok (.ldc2_w 303, 3) := by decide +kernel
theorem dX5_bitsOf_36 : decode cX5_bitsOf 36 = .ok (.dmul, 1) := by decide +kernel
theorem dX5_bitsOf_37 : decode cX5_bitsOf 37 = .ok (.dstore_n 2, 1) := by decide +kernel
theorem dX5_bitsOf_38 : decode cX5_bitsOf 38 = .ok (.lload 4, 2) := by decide +kernel
theorem dX5_bitsOf_40 : decode cX5_bitsOf 40 = .ok (.lconst 1, 1) := by decide +kernel
theorem dX5_bitsOf_41 : decode cX5_bitsOf 41 = .ok (.lsub, 1) := by decide +kernel
theorem dX5_bitsOf_42 : decode cX5_bitsOf 42 = .ok (.lstore 4, 2) := by decide +kernel
theorem dX5_bitsOf_44 : decode cX5_bitsOf 44 = .ok (.iinc 6 1, 3) := by decide +kernel
theorem dX5_bitsOf_47 : decode cX5_bitsOf 47 = .ok (.goto (-29), 3) := by decide +kernel
theorem dX5_bitsOf_50 : decode cX5_bitsOf 50 = .ok (.lload 4, 2) := by decide +kernel
theorem dX5_bitsOf_52 : decode cX5_bitsOf 52 = .ok (.bipush 52, 2) := by decide +kernel
theorem dX5_bitsOf_54 : decode cX5_bitsOf 54 = .ok (.lshl, 1) := by decide +kernel
theorem dX5_bitsOf_55 : decode cX5_bitsOf 55 = .ok (.dload_n 2, 1) := by decide +kernel
theorem dX5_bitsOf_56 : decode cX5_bitsOf 56 = .ok (.dconst 1, 1) := by decide +kernel
theorem dX5_bitsOf_57 : decode cX5_bitsOf 57 = .ok (.dsub, 1) := by decide +kernel
theorem dX5_bitsOf_58 : decode cX5_bitsOf 58 = .ok (.ldc2_w 305, 3) := by decide +kernel
theorem dX5_bitsOf_61 : decode cX5_bitsOf 61 = .ok (.dmul, 1) := by decide +kernel
theorem dX5_bitsOf_62 : decode cX5_bitsOf 62 = .ok (.d2l, 1) := by decide +kernel
theorem dX5_bitsOf_63 : decode cX5_bitsOf 63 = .ok (.ladd, 1) := by decide +kernel
theorem dX5_bitsOf_64 : decode cX5_bitsOf 64 = .ok (.lreturn, 1) := by decide +kernel
theorem dX6_init_0 : decode cX6_init 0 = .ok (.aload_n 0, 1) := by decide +kernel
theorem dX6_init_1 : decode cX6_init 1 = .ok (.invokespecial 1, 3) := by decide +kernel
theorem dX6_init_4 : decode cX6_init 4 = .ok (.aload_n 0, 1) := by decide +kernel
theorem dX6_init_5 : decode cX6_init 5 = .ok (.bipush 59, 2) := by decide +kernel
theorem dX6_init_7 : decode cX6_init 7 = .ok (.newarray .int, 2) := by decide +kernel
theorem dX6_init_9 : decode cX6_init 9 = .ok (.putfield 7, 3) := by decide +kernel
theorem dX6_init_12 : decode cX6_init 12 = .ok (.aload_n 0, 1) := by decide +kernel
theorem dX6_init_13 : decode cX6_init 13 = .ok (.sipush 354, 3) := by decide +kernel
theorem dX6_init_16 : decode cX6_init 16 = .ok (.newarray .int, 2) := by decide +kernel
theorem dX6_init_18 : decode cX6_init 18 = .ok (.putfield 13, 3) := by decide +kernel
theorem dX6_init_21 : decode cX6_init 21 = .ok (.aload_n 0, 1) := by decide +kernel
theorem dX6_init_22 : decode cX6_init 22 = .ok (.bipush 59, 2) := by decide +kernel
theorem dX6_init_24 : decode cX6_init 24 = .ok (.newarray .int, 2) := by decide +kernel
theorem dX6_init_26 : decode cX6_init 26 = .ok (.putfield 16, 3) := by decide +kernel
theorem dX6_init_29 : decode cX6_init 29 = .ok (.aload_n 0, 1) := by decide +kernel
theorem dX6_init_30 : decode cX6_init 30 = .ok (.bipush 118, 2) := by decide +kernel
theorem dX6_init_32 : decode cX6_init 32 = .ok (.newarray .int, 2) := by decide +kernel
theorem dX6_init_34 : decode cX6_init 34 = .ok (.putfield 19, 3) := by decide +kernel
theorem dX6_init_37 : decode cX6_init 37 = .ok (.aload_n 0, 1) := by decide +kernel
theorem dX6_init_38 : decode cX6_init 38 = .ok (.iconst 2, 1) := by decide +kernel
theorem dX6_init_39 : decode cX6_init 39 = .ok (.newarray .boolean, 2) := by decide +kernel
theorem dX6_init_41 : decode cX6_init 41 = .ok (.putfield 22, 3) := by decide +kernel
theorem dX6_init_44 : decode cX6_init 44 = .ok (.aload_n 0, 1) := by decide +kernel
theorem dX6_init_45 : decode cX6_init 45 = .ok (.bipush 60, 2) := by decide +kernel
theorem dX6_init_47 : decode cX6_init 47 = .ok (.newarray .int, 2) := by decide +kernel
theorem dX6_init_49 : decode cX6_init 49 = .ok (.putfield 26, 3) := by decide +kernel
theorem dX6_init_52 : decode cX6_init 52 = .ok (.aload_n 0, 1) := by decide +kernel
theorem dX6_init_53 : decode cX6_init 53 = .ok (.bipush 10, 2) := by decide +kernel
theorem dX6_init_55 : decode cX6_init 55 = .ok (.newarray .int, 2) := by decide +kernel
theorem dX6_init_57 : decode cX6_init 57 = .ok (.putfield 29, 3) := by decide +kernel
theorem dX6_init_60 : decode cX6_init 60 = .ok (.aload_n 0, 1) := by decide +kernel
theorem dX6_init_61 : decode cX6_init 61 = .ok (.bipush 10, 2) := by decide +kernel
theorem dX6_init_63 : decode cX6_init 63 = .ok (.newarray .int, 2) := by decide +kernel
theorem dX6_init_65 : decode cX6_init 65 = .ok (.putfield 32, 3) := by decide +kernel
theorem dX6_init_68 : decode cX6_init 68 = .ok (.aload_n 0, 1) := by decide +kernel
theorem dX6_init_69 : decode cX6_init 69 = .ok (.getfield 7, 3) := by decide +kernel
theorem dX6_init_72 : decode cX6_init 72 = .ok (.iconst 0, 1) := by decide +kernel
theorem dX6_init_73 : decode cX6_init 73 = .ok (.iconst 3, 1) := by decide +kernel
theorem dX6_init_74 : decode cX6_init 74 = .ok (.iastore, 1) := by decide +kernel
theorem dX6_init_75 : decode cX6_init 75 = .ok (.aload_n 0, 1) := by decide +kernel
theorem dX6_init_76 : decode cX6_init 76 = .ok (.getfield 7, 3) := by decide +kernel
theorem dX6_init_79 : decode cX6_init 79 = .ok (.iconst 1, 1) := by decide +kernel
theorem dX6_init_80 : decode cX6_init 80 = .ok (.iconst 2, 1) := by decide +kernel
theorem dX6_init_81 : decode cX6_init 81 = .ok (.iastore, 1) := by decide +kernel
theorem dX6_init_82 : decode cX6_init 82 = .ok (.aload_n 0, 1) := by decide +kernel
theorem dX6_init_83 : decode cX6_init 83 = .ok (.getfield 7, 3) := by decide +kernel
theorem dX6_init_86 : decode cX6_init 86 = .ok (.iconst 2, 1) := by decide +kernel
theorem dX6_init_87 : decode cX6_init 87 = .ok (.iconst 1, 1) := by decide +kernel
theorem dX6_init_88 : decode cX6_init 88 = .ok (.iastore, 1) := by decide +kernel
theorem dX6_init_89 : decode cX6_init 89 = .ok (.aload_n 0, 1) := by decide +kernel
theorem dX6_init_90 : decode cX6_init 90 = .ok (.getfield 7, 3) := by decide +kernel
theorem dX6_init_93 : decode cX6_init 93 = .ok (.iconst 3, 1) := by decide +kernel
theorem dX6_init_94 : decode cX6_init 94 = .ok (.iconst 1, 1) := by decide +kernel
theorem dX6_init_95 : decode cX6_init 95 = .ok (.iastore, 1) := by decide +kernel
theorem dX6_init_96 : decode cX6_init 96 = .ok (.return_, 1) := by decide +kernel
theorem dX6_thrown_0 : decode cX6_thrown 0 = .ok (.aload_n 0, 1) := by decide +kernel
theorem dX6_thrown_1 : decode cX6_thrown 1 = .ok (.getfield 35, 3) := by decide +kernel
theorem dX6_thrown_4 : decode cX6_thrown 4 = .ok (.ireturn, 1) := by decide +kernel
theorem dX6_wrong_0 : decode cX6_wrong 0 = .ok (.aload_n 0, 1) := by decide +kernel
theorem dX6_wrong_1 : decode cX6_wrong 1 = .ok (.iload_n 1, 1) := by decide +kernel
theorem dX6_wrong_2 : decode cX6_wrong 2 = .ok (.putfield 35, 3) := by decide +kernel
theorem dX6_wrong_5 : decode cX6_wrong 5 = .ok (.iconst 0, 1) := by decide +kernel
theorem dX6_wrong_6 : decode cX6_wrong 6 = .ok (.ireturn, 1) := by decide +kernel
theorem dX6_in_0 : decode cX6_in 0 = .ok (.iload_n 0, 1) := by decide +kernel
theorem dX6_in_1 : decode cX6_in 1 = .ok (.iload_n 1, 1) := by decide +kernel
theorem dX6_in_2 : decode cX6_in 2 = .ok (.if_icmp .lt 12, 3) := by decide +kernel
theorem dX6_in_5 : decode cX6_in 5 = .ok (.iload_n 0, 1) := by decide +kernel
theorem dX6_in_6 : decode cX6_in 6 = .ok (.iload_n 2, 1) := by decide +kernel
theorem dX6_in_7 : decode cX6_in 7 = .ok (.if_icmp .gt 7, 3) := by decide +kernel
theorem dX6_in_10 : decode cX6_in 10 = .ok (.iconst 1, 1) := by decide +kernel
theorem dX6_in_11 : decode cX6_in 11 = .ok (.goto 4, 3) := by decide +kernel
theorem dX6_in_14 : decode cX6_in 14 = .ok (.iconst 0, 1) := by decide +kernel
theorem dX6_in_15 : decode cX6_in 15 = .ok (.ireturn, 1) := by decide +kernel
theorem dX6_its_0 : decode cX6_its 0 = .ok (.aload_n 0, 1) := by decide +kernel
theorem dX6_its_1 : decode cX6_its 1 = .ok (.getfield 7, 3) := by decide +kernel
theorem dX6_its_4 : decode cX6_its 4 = .ok (.bipush 31, 2) := by decide +kernel
theorem dX6_its_6 : decode cX6_its 6 = .ok (.bipush 7, 2) := by decide +kernel
theorem dX6_its_8 : decode cX6_its 8 = .ok (.iload_n 1, 1) := by decide +kernel
theorem dX6_its_9 : decode cX6_its 9 = .ok (.imul, 1) := by decide +kernel
theorem dX6_its_10 : decode cX6_its 10 = .ok (.iadd, 1) := by decide +kernel
theorem dX6_its_11 : decode cX6_its 11 = .ok (.iload_n 2, 1) := by decide +kernel
theorem dX6_its_12 : decode cX6_its 12 = .ok (.iadd, 1) := by decide +kernel
theorem dX6_its_13 : decode cX6_its 13 = .ok (.iaload, 1) := by decide +kernel
theorem dX6_its_14 : decode cX6_its 14 = .ok (.ireturn, 1) := by decide +kernel
theorem dX6_more_0 : decode cX6_more 0 = .ok (.aload_n 0, 1) := by decide +kernel
theorem dX6_more_1 : decode cX6_more 1 = .ok (.getfield 7, 3) := by decide +kernel
theorem dX6_more_4 : decode cX6_more 4 = .ok (.bipush 31, 2) := by decide +kernel
theorem dX6_more_6 : decode cX6_more 6 = .ok (.bipush 7, 2) := by decide +kernel
theorem dX6_more_8 : decode cX6_more 8 = .ok (.iload_n 1, 1) := by decide +kernel
theorem dX6_more_9 : decode cX6_more 9 = .ok (.imul, 1) := by decide +kernel
theorem dX6_more_10 : decode cX6_more 10 = .ok (.iadd, 1) := by decide +kernel
theorem dX6_more_11 : decode cX6_more 11 = .ok (.iload_n 2, 1) := by decide +kernel
theorem dX6_more_12 : decode cX6_more 12 = .ok (.iadd, 1) := by decide +kernel
theorem dX6_more_13 : decode cX6_more 13 = .ok (.dup2, 1) := by decide +kernel
theorem dX6_more_14 : decode cX6_more 14 = .ok (.iaload, 1) := by decide +kernel
theorem dX6_more_15 : decode cX6_more 15 = .ok (.iload_n 3, 1) := by decide +kernel
theorem dX6_more_16 : decode cX6_more 16 = .ok (.iadd, 1) := by decide +kernel
theorem dX6_more_17 : decode cX6_more 17 = .ok (.iastore, 1) := by decide +kernel
theorem dX6_more_18 : decode cX6_more 18 = .ok (.return_, 1) := by decide +kernel
theorem dX6_isPlayer_0 : decode cX6_isPlayer 0 = .ok (.iload_n 1, 1) := by decide +kernel
theorem dX6_isPlayer_1 : decode cX6_isPlayer 1 = .ok (.iconst 0, 1) := by decide +kernel
theorem dX6_isPlayer_2 : decode cX6_isPlayer 2 = .ok (.aload_n 0, 1) := by decide +kernel
theorem dX6_isPlayer_3 : decode cX6_isPlayer 3 = .ok (.getfield 7, 3) := by decide +kernel
theorem dX6_isPlayer_6 : decode cX6_isPlayer 6 = .ok (.iconst 4, 1) := by decide +kernel
theorem dX6_isPlayer_7 : decode cX6_isPlayer 7 = .ok (.iaload, 1) := by decide +kernel
theorem dX6_isPlayer_8 : decode cX6_isPlayer 8 = .ok (.iconst 1, 1) := by decide +kernel
theorem dX6_isPlayer_9 : decode cX6_isPlayer 9 = .ok (.isub, 1) := by decide +kernel
theorem dX6_isPlayer_10 : decode cX6_isPlayer 10 = .ok (.invokestatic 39, 3) := by decide +kernel
theorem dX6_isPlayer_13 : decode cX6_isPlayer 13 = .ok (.ireturn, 1) := by decide +kernel
theorem dX6_remember_0 : decode cX6_remember 0 = .ok (.iconst 0, 1) := by decide +kernel
theorem dX6_remember_1 : decode cX6_remember 1 = .ok (.istore_n 1, 1) := by decide +kernel
theorem dX6_remember_2 : decode cX6_remember 2 = .ok (.iload_n 1, 1) := by decide +kernel
theorem dX6_remember_3 : decode cX6_remember 3 = .ok (.bipush 59, 2) := by decide +kernel
theorem dX6_remember_5 : decode cX6_remember 5 = .ok (.if_icmp .ge 21, 3) := by decide +kernel
theorem dX6_remember_8 : decode cX6_remember 8 = .ok (.aload_n 0, 1) := by decide +kernel
theorem dX6_remember_9 : decode cX6_remember 9 = .ok (.getfield 16, 3) := by decide +kernel
theorem dX6_remember_12 : decode cX6_remember 12 = .ok (.iload_n 1, 1) := by decide +kernel
theorem dX6_remember_13 : decode cX6_remember 13 = .ok (.aload_n 0, 1) := by decide +kernel
theorem dX6_remember_14 : decode cX6_remember 14 = .ok (.getfield 7, 3) := by decide +kernel
theorem dX6_remember_17 : decode cX6_remember 17 = .ok (.iload_n 1, 1) := by decide +kernel
theorem dX6_remember_18 : decode cX6_remember 18 = .ok (.iaload, 1) := by decide +kernel
theorem dX6_remember_19 : decode cX6_remember 19 = .ok (.iastore, 1) := by decide +kernel
theorem dX6_remember_20 : decode cX6_remember 20 = .ok (.iinc 1 1, 3) := by decide +kernel
theorem dX6_remember_23 : decode cX6_remember 23 = .ok (.goto (-21), 3) := by decide +kernel
theorem dX6_remember_26 : decode cX6_remember 26 = .ok (.return_, 1) := by decide +kernel
theorem dX6_record_0 : decode cX6_record 0 = .ok (.aload_n 0, 1) := by decide +kernel
theorem dX6_record_1 : decode cX6_record 1 = .ok (.getfield 43, 3) := by decide +kernel
theorem dX6_record_4 : decode cX6_record 4 = .ok (.bipush 6, 2) := by decide +kernel
theorem dX6_record_6 : decode cX6_record 6 = .ok (.if_icmp .ne 43, 3) := by decide +kernel
theorem dX6_record_9 : decode cX6_record 9 = .ok (.iconst 0, 1) := by decide +kernel
theorem dX6_record_10 : decode cX6_record 10 = .ok (.istore_n 2, 1) := by decide +kernel
theorem dX6_record_11 : decode cX6_record 11 = .ok (.iload_n 2, 1) := by decide +kernel
theorem dX6_record_12 : decode cX6_record 12 = .ok (.sipush 295, 3) := by decide +kernel
theorem dX6_record_15 : decode cX6_record 15 = .ok (.if_icmp .ge 24, 3) := by decide +kernel
theorem dX6_record_18 : decode cX6_record 18 = .ok (.aload_n 0, 1) := by decide +kernel
theorem dX6_record_19 : decode cX6_record 19 = .ok (.getfield 13, 3) := by decide +kernel
theorem dX6_record_22 : decode cX6_record 22 = .ok (.iload_n 2, 1) := by decide +kernel
theorem dX6_record_23 : decode cX6_record 23 = .ok (.aload_n 0, 1) := by decide +kernel
theorem dX6_record_24 : decode cX6_record 24 = .ok (.getfield 13, 3) := by decide +kernel
theorem dX6_record_27 : decode cX6_record 27 = .ok (.bipush 59, 2) := by decide +kernel
theorem dX6_record_29 : decode cX6_record 29 = .ok (.iload_n 2, 1) := by decide +kernel
theorem dX6_record_30 : decode cX6_record 30 = .ok (.iadd, 1) := by decide +kernel
theorem dX6_record_31 : decode cX6_record 31 = .ok (.iaload, 1) := by decide +kernel
theorem dX6_record_32 : decode cX6_record 32 = .ok (.iastore, 1) := by decide +kernel
theorem dX6_record_33 : decode cX6_record 33 = .ok (.iinc 2 1, 3) := by decide +kernel
theorem dX6_record_36 : decode cX6_record 36 = .ok (.goto (-25), 3) := by decide +kernel
theorem dX6_record_39 : decode cX6_record 39 = .ok (.aload_n 0, 1) := by decide +kernel
theorem dX6_record_40 : decode cX6_record 40 = .ok (.dup, 1) := by decide +kernel
theorem dX6_record_41 : decode cX6_record 41 = .ok (.getfield 43, 3) := by decide +kernel
theorem dX6_record_44 : decode cX6_record 44 = .ok (.iconst 1, 1) := by decide +kernel
theorem dX6_record_45 : decode cX6_record 45 = .ok (.isub, 1) := by decide +kernel
theorem dX6_record_46 : decode cX6_record 46 = .ok (.putfield 43, 3) := by decide +kernel
theorem dX6_record_49 : decode cX6_record 49 = .ok (.iconst 0, 1) := by decide +kernel
theorem dX6_record_50 : decode cX6_record 50 = .ok (.istore_n 2, 1) := by decide +kernel
theorem dX6_record_51 : decode cX6_record 51 = .ok (.iload_n 2, 1) := by decide +kernel
theorem dX6_record_52 : decode cX6_record 52 = .ok (.bipush 59, 2) := by decide +kernel
theorem dX6_record_54 : decode cX6_record 54 = .ok (.if_icmp .ge 29, 3) := by decide +kernel
theorem dX6_record_57 : decode cX6_record 57 = .ok (.aload_n 0, 1) := by decide +kernel
theorem dX6_record_58 : decode cX6_record 58 = .ok (.getfield 13, 3) := by decide +kernel
theorem dX6_record_61 : decode cX6_record 61 = .ok (.bipush 59, 2) := by decide +kernel
theorem dX6_record_63 : decode cX6_record 63 = .ok (.aload_n 0, 1) := by decide +kernel
theorem dX6_record_64 : decode cX6_record 64 = .ok (.getfield 43, 3) := by decide +kernel
theorem dX6_record_67 : decode cX6_record 67 = .ok (.imul, 1) := by decide +kernel
theorem dX6_record_68 : decode cX6_record 68 = .ok (.iload_n 2, 1) := by decide +kernel
theorem dX6_record_69 : decode cX6_record 69 = .ok (.iadd, 1) := by decide +kernel
theorem dX6_record_70 : decode cX6_record 70 = .ok (.aload_n 0, 1) := by decide +kernel
theorem dX6_record_71 : decode cX6_record 71 = .ok (.getfield 16, 3) := by decide +kernel
theorem dX6_record_74 : decode cX6_record 74 = .ok (.iload_n 2, 1) := by decide +kernel
theorem dX6_record_75 : decode cX6_record 75 = .ok (.iaload, 1) := by decide +kernel
theorem dX6_record_76 : decode cX6_record 76 = .ok (.iastore, 1) := by decide +kernel
theorem dX6_record_77 : decode cX6_record 77 = .ok (.iinc 2 1, 3) := by decide +kernel
theorem dX6_record_80 : decode cX6_record 80 = .ok (.goto (-29), 3) := by decide +kernel
theorem dX6_record_83 : decode cX6_record 83 = .ok (.aload_n 0, 1) := by decide +kernel
theorem dX6_record_84 : decode cX6_record 84 = .ok (.dup, 1) := by decide +kernel
theorem dX6_record_85 : decode cX6_record 85 = .ok (.getfield 43, 3) := by decide +kernel
theorem dX6_record_88 : decode cX6_record 88 = .ok (.iconst 1, 1) := by decide +kernel
theorem dX6_record_89 : decode cX6_record 89 = .ok (.iadd, 1) := by decide +kernel
theorem dX6_record_90 : decode cX6_record 90 = .ok (.putfield 43, 3) := by decide +kernel
theorem dX6_record_93 : decode cX6_record 93 = .ok (.iload_n 1, 1) := by decide +kernel
theorem dX6_record_94 : decode cX6_record 94 = .ok (.ireturn, 1) := by decide +kernel
theorem dX6_undo_0 : decode cX6_undo 0 = .ok (.aload_n 0, 1) := by decide +kernel
theorem dX6_undo_1 : decode cX6_undo 1 = .ok (.iconst 0, 1) := by decide +kernel
theorem dX6_undo_2 : decode cX6_undo 2 = .ok (.putfield 35, 3) := by decide +kernel
theorem dX6_undo_5 : decode cX6_undo 5 = .ok (.aload_n 0, 1) := by decide +kernel
theorem dX6_undo_6 : decode cX6_undo 6 = .ok (.getfield 43, 3) := by decide +kernel
theorem dX6_undo_9 : decode cX6_undo 9 = .ok (.ifCond .ne 9, 3) := by decide +kernel
theorem dX6_undo_12 : decode cX6_undo 12 = .ok (.aload_n 0, 1) := by decide +kernel
theorem dX6_undo_13 : decode cX6_undo 13 = .ok (.iconst 1, 1) := by decide +kernel
theorem dX6_undo_14 : decode cX6_undo 14 = .ok (.invokevirtual 46, 3) := by decide +kernel
theorem dX6_undo_17 : decode cX6_undo 17 = .ok (.ireturn, 1) := by decide +kernel
theorem dX6_undo_18 : decode cX6_undo 18 = .ok (.aload_n 0, 1) := by decide +kernel
theorem dX6_undo_19 : decode cX6_undo 19 = .ok (.dup, 1) := by decide +kernel
theorem dX6_undo_20 : decode cX6_undo 20 = .ok (.getfield 43, 3) := by decide +kernel
theorem dX6_undo_23 : decode cX6_undo 23 = .ok (.iconst 1, 1) := by decide +kernel
theorem dX6_undo_24 : decode cX6_undo 24 = .ok (.isub, 1) := by decide +kernel
theorem dX6_undo_25 : decode cX6_undo 25 = .ok (.putfield 43, 3) := by decide +kernel
theorem dX6_undo_28 : decode cX6_undo 28 = .ok (.iconst 0, 1) := by decide +kernel
theorem dX6_undo_29 : decode cX6_undo 29 = .ok (.istore_n 1, 1) := by decide +kernel
theorem dX6_undo_30 : decode cX6_undo 30 = .ok (.iload_n 1, 1) := by decide +kernel
theorem dX6_undo_31 : decode cX6_undo 31 = .ok (.bipush 59, 2) := by decide +kernel
theorem dX6_undo_33 : decode cX6_undo 33 = .ok (.if_icmp .ge 29, 3) := by decide +kernel
theorem dX6_undo_36 : decode cX6_undo 36 = .ok (.aload_n 0, 1) := by decide +kernel
theorem dX6_undo_37 : decode cX6_undo 37 = .ok (.getfield 7, 3) := by decide +kernel
theorem dX6_undo_40 : decode cX6_undo 40 = .ok (.iload_n 1, 1) := by decide +kernel
theorem dX6_undo_41 : decode cX6_undo 41 = .ok (.aload_n 0, 1) := by decide +kernel
theorem dX6_undo_42 : decode cX6_undo 42 = .ok (.getfield 13, 3) := by decide +kernel
theorem dX6_undo_45 : decode cX6_undo 45 = .ok (.bipush 59, 2) := by decide +kernel
theorem dX6_undo_47 : decode cX6_undo 47 = .ok (.aload_n 0, 1) := by decide +kernel
theorem dX6_undo_48 : decode cX6_undo 48 = .ok (.getfield 43, 3) := by decide +kernel
theorem dX6_undo_51 : decode cX6_undo 51 = .ok (.imul, 1) := by decide +kernel
theorem dX6_undo_52 : decode cX6_undo 52 = .ok (.iload_n 1, 1) := by decide +kernel
theorem dX6_undo_53 : decode cX6_undo 53 = .ok (.iadd, 1) := by decide +kernel
theorem dX6_undo_54 : decode cX6_undo 54 = .ok (.iaload, 1) := by decide +kernel
theorem dX6_undo_55 : decode cX6_undo 55 = .ok (.iastore, 1) := by decide +kernel
theorem dX6_undo_56 : decode cX6_undo 56 = .ok (.iinc 1 1, 3) := by decide +kernel
theorem dX6_undo_59 : decode cX6_undo 59 = .ok (.goto (-29), 3) := by decide +kernel
theorem dX6_undo_62 : decode cX6_undo 62 = .ok (.aload_n 0, 1) := by decide +kernel
theorem dX6_undo_63 : decode cX6_undo 63 = .ok (.getfield 43, 3) := by decide +kernel
theorem dX6_undo_66 : decode cX6_undo 66 = .ok (.ireturn, 1) := by decide +kernel
theorem dX6_keep_0 : decode cX6_keep 0 = .ok (.aload_n 0, 1) := by decide +kernel
theorem dX6_keep_1 : decode cX6_keep 1 = .ok (.iconst 0, 1) := by decide +kernel
theorem dX6_keep_2 : decode cX6_keep 2 = .ok (.putfield 35, 3) := by decide +kernel
theorem dX6_keep_5 : decode cX6_keep 5 = .ok (.iload_n 1, 1) := by decide +kernel
theorem dX6_keep_6 : decode cX6_keep 6 = .ok (.iconst 0, 1) := by decide +kernel
theorem dX6_keep_7 : decode cX6_keep 7 = .ok (.iconst 1, 1) := by decide +kernel
theorem dX6_keep_8 : decode cX6_keep 8 = .ok (.invokestatic 39, 3) := by decide +kernel
theorem dX6_keep_11 : decode cX6_keep 11 = .ok (.ifCond .ne 9, 3) := by decide +kernel
theorem dX6_keep_14 : decode cX6_keep 14 = .ok (.aload_n 0, 1) := by decide +kernel
theorem dX6_keep_15 : decode cX6_keep 15 = .ok (.iconst 1, 1) := by decide +kernel
theorem dX6_keep_16 : decode cX6_keep 16 = .ok (.invokevirtual 46, 3) := by decide +kernel
theorem dX6_keep_19 : decode cX6_keep 19 = .ok (.ireturn, 1) := by decide +kernel
theorem dX6_keep_20 : decode cX6_keep 20 = .ok (.iconst 0, 1) := by decide +kernel
theorem dX6_keep_21 : decode cX6_keep 21 = .ok (.istore_n 2, 1) := by decide +kernel
theorem dX6_keep_22 : decode cX6_keep 22 = .ok (.iload_n 2, 1) := by decide +kernel
theorem dX6_keep_23 : decode cX6_keep 23 = .ok (.bipush 59, 2) := by decide +kernel
theorem dX6_keep_25 : decode cX6_keep 25 = .ok (.if_icmp .ge 26, 3) := by decide +kernel
theorem dX6_keep_28 : decode cX6_keep 28 = .ok (.aload_n 0, 1) := by decide +kernel
theorem dX6_keep_29 : decode cX6_keep 29 = .ok (.getfield 19, 3) := by decide +kernel
theorem dX6_keep_32 : decode cX6_keep 32 = .ok (.bipush 59, 2) := by decide +kernel
theorem dX6_keep_34 : decode cX6_keep 34 = .ok (.iload_n 1, 1) := by decide +kernel
theorem dX6_keep_35 : decode cX6_keep 35 = .ok (.imul, 1) := by decide +kernel
theorem dX6_keep_36 : decode cX6_keep 36 = .ok (.iload_n 2, 1) := by decide +kernel
theorem dX6_keep_37 : decode cX6_keep 37 = .ok (.iadd, 1) := by decide +kernel
theorem dX6_keep_38 : decode cX6_keep 38 = .ok (.aload_n 0, 1) := by decide +kernel
theorem dX6_keep_39 : decode cX6_keep 39 = .ok (.getfield 7, 3) := by decide +kernel
theorem dX6_keep_42 : decode cX6_keep 42 = .ok (.iload_n 2, 1) := by decide +kernel
theorem dX6_keep_43 : decode cX6_keep 43 = .ok (.iaload, 1) := by decide +kernel
theorem dX6_keep_44 : decode cX6_keep 44 = .ok (.iastore, 1) := by decide +kernel
theorem dX6_keep_45 : decode cX6_keep 45 = .ok (.iinc 2 1, 3) := by decide +kernel
theorem dX6_keep_48 : decode cX6_keep 48 = .ok (.goto (-26), 3) := by decide +kernel
theorem dX6_keep_51 : decode cX6_keep 51 = .ok (.aload_n 0, 1) := by decide +kernel
theorem dX6_keep_52 : decode cX6_keep 52 = .ok (.getfield 22, 3) := by decide +kernel
theorem dX6_keep_55 : decode cX6_keep 55 = .ok (.iload_n 1, 1) := by decide +kernel
theorem dX6_keep_56 : decode cX6_keep 56 = .ok (.iconst 1, 1) := by decide +kernel
theorem dX6_keep_57 : decode cX6_keep 57 = .ok (.bastore, 1) := by decide +kernel
theorem dX6_keep_58 : decode cX6_keep 58 = .ok (.aload_n 0, 1) := by decide +kernel
theorem dX6_keep_59 : decode cX6_keep 59 = .ok (.getfield 7, 3) := by decide +kernel
theorem dX6_keep_62 : decode cX6_keep 62 = .ok (.bipush 7, 2) := by decide +kernel
theorem dX6_keep_64 : decode cX6_keep 64 = .ok (.iaload, 1) := by decide +kernel
theorem dX6_keep_65 : decode cX6_keep 65 = .ok (.ireturn, 1) := by decide +kernel
theorem dX6_goBack_0 : decode cX6_goBack 0 = .ok (.aload_n 0, 1) := by decide +kernel
theorem dX6_goBack_1 : decode cX6_goBack 1 = .ok (.iconst 0, 1) := by decide +kernel
theorem dX6_goBack_2 : decode cX6_goBack 2 = .ok (.putfield 35, 3) := by decide +kernel
theorem dX6_goBack_5 : decode cX6_goBack 5 = .ok (.iload_n 1, 1) := by decide +kernel
theorem dX6_goBack_6 : decode cX6_goBack 6 = .ok (.iconst 0, 1) := by decide +kernel
theorem dX6_goBack_7 : decode cX6_goBack 7 = .ok (.iconst 1, 1) := by decide +kernel
theorem dX6_goBack_8 : decode cX6_goBack 8 = .ok (.invokestatic 39, 3) := by decide +kernel
theorem dX6_goBack_11 : decode cX6_goBack 11 = .ok (.ifCond .ne 9, 3) := by decide +kernel
theorem dX6_goBack_14 : decode cX6_goBack 14 = .ok (.aload_n 0, 1) := by decide +kernel
theorem dX6_goBack_15 : decode cX6_goBack 15 = .ok (.iconst 1, 1) := by decide +kernel
theorem dX6_goBack_16 : decode cX6_goBack 16 = .ok (.invokevirtual 46, 3) := by decide +kernel
theorem dX6_goBack_19 : decode cX6_goBack 19 = .ok (.ireturn, 1) := by decide +kernel
theorem dX6_goBack_20 : decode cX6_goBack 20 = .ok (.aload_n 0, 1) := by decide +kernel
theorem dX6_goBack_21 : decode cX6_goBack 21 = .ok (.getfield 22, 3) := by decide +kernel
theorem dX6_goBack_24 : decode cX6_goBack 24 = .ok (.iload_n 1, 1) := by decide +kernel
theorem dX6_goBack_25 : decode cX6_goBack 25 = .ok (.baload, 1) := by decide +kernel
theorem dX6_goBack_26 : decode cX6_goBack 26 = .ok (.ifCond .ne 9, 3) := by decide +kernel
theorem dX6_goBack_29 : decode cX6_goBack 29 = .ok (.aload_n 0, 1) := by decide +kernel
theorem dX6_goBack_30 : decode cX6_goBack 30 = .ok (.iconst 2, 1) := by decide +kernel
theorem dX6_goBack_31 : decode cX6_goBack 31 = .ok (.invokevirtual 46, 3) := by decide +kernel
theorem dX6_goBack_34 : decode cX6_goBack 34 = .ok (.ireturn, 1) := by decide +kernel
theorem dX6_goBack_35 : decode cX6_goBack 35 = .ok (.aload_n 0, 1) := by decide +kernel
theorem dX6_goBack_36 : decode cX6_goBack 36 = .ok (.invokevirtual 50, 3) := by decide +kernel
theorem dX6_goBack_39 : decode cX6_goBack 39 = .ok (.iconst 0, 1) := by decide +kernel
theorem dX6_goBack_40 : decode cX6_goBack 40 = .ok (.istore_n 2, 1) := by decide +kernel
theorem dX6_goBack_41 : decode cX6_goBack 41 = .ok (.iload_n 2, 1) := by decide +kernel
theorem dX6_goBack_42 : decode cX6_goBack 42 = .ok (.bipush 59, 2) := by decide +kernel
theorem dX6_goBack_44 : decode cX6_goBack 44 = .ok (.if_icmp .ge 26, 3) := by decide +kernel
theorem dX6_goBack_47 : decode cX6_goBack 47 = .ok (.aload_n 0, 1) := by decide +kernel
theorem dX6_goBack_48 : decode cX6_goBack 48 = .ok (.getfield 7, 3) := by decide +kernel
theorem dX6_goBack_51 : decode cX6_goBack 51 = .ok (.iload_n 2, 1) := by decide +kernel
theorem dX6_goBack_52 : decode cX6_goBack 52 = .ok (.aload_n 0, 1) := by decide +kernel
theorem dX6_goBack_53 : decode cX6_goBack 53 = .ok (.getfield 19, 3) := by decide +kernel
theorem dX6_goBack_56 : decode cX6_goBack 56 = .ok (.bipush 59, 2) := by decide +kernel
theorem dX6_goBack_58 : decode cX6_goBack 58 = .ok (.iload_n 1, 1) := by decide +kernel
theorem dX6_goBack_59 : decode cX6_goBack 59 = .ok (.imul, 1) := by decide +kernel
theorem dX6_goBack_60 : decode cX6_goBack 60 = .ok (.iload_n 2, 1) := by decide +kernel
theorem dX6_goBack_61 : decode cX6_goBack 61 = .ok (.iadd, 1) := by decide +kernel
theorem dX6_goBack_62 : decode cX6_goBack 62 = .ok (.iaload, 1) := by decide +kernel
theorem dX6_goBack_63 : decode cX6_goBack 63 = .ok (.iastore, 1) := by decide +kernel
theorem dX6_goBack_64 : decode cX6_goBack 64 = .ok (.iinc 2 1, 3) := by decide +kernel
theorem dX6_goBack_67 : decode cX6_goBack 67 = .ok (.goto (-26), 3) := by decide +kernel
theorem dX6_goBack_70 : decode cX6_goBack 70 = .ok (.aload_n 0, 1) := by decide +kernel
theorem dX6_goBack_71 : decode cX6_goBack 71 = .ok (.aload_n 0, 1) := by decide +kernel
theorem dX6_goBack_72 : decode cX6_goBack 72 = .ok (.getfield 7, 3) := by decide +kernel
theorem dX6_goBack_75 : decode cX6_goBack 75 = .ok (.bipush 7, 2) := by decide +kernel
theorem dX6_goBack_77 : decode cX6_goBack 77 = .ok (.iaload, 1) := by decide +kernel
theorem dX6_goBack_78 : decode cX6_goBack 78 = .ok (.invokevirtual 53, 3) := by decide +kernel
theorem dX6_goBack_81 : decode cX6_goBack 81 = .ok (.ireturn, 1) := by decide +kernel
theorem dX6_size_0 : decode cX6_size 0 = .ok (.iload_n 0, 1) := by decide +kernel
theorem dX6_size_1 : decode cX6_size 1 = .ok (.ifCond .ge 8, 3) := by decide +kernel
theorem dX6_size_4 : decode cX6_size 4 = .ok (.iload_n 0, 1) := by decide +kernel
theorem dX6_size_5 : decode cX6_size 5 = .ok (.ineg, 1) := by decide +kernel
theorem dX6_size_6 : decode cX6_size 6 = .ok (.goto 4, 3) := by decide +kernel
theorem dX6_size_9 : decode cX6_size 9 = .ok (.iload_n 0, 1) := by decide +kernel
theorem dX6_size_10 : decode cX6_size 10 = .ok (.ireturn, 1) := by decide +kernel
theorem dX6_sees_0 : decode cX6_sees 0 = .ok (.aload_n 0, 1) := by decide +kernel
theorem dX6_sees_1 : decode cX6_sees 1 = .ok (.getfield 7, 3) := by decide +kernel
theorem dX6_sees_4 : decode cX6_sees 4 = .ok (.bipush 11, 2) := by decide +kernel
theorem dX6_sees_6 : decode cX6_sees 6 = .ok (.iload_n 1, 1) := by decide +kernel
theorem dX6_sees_7 : decode cX6_sees 7 = .ok (.iadd, 1) := by decide +kernel
theorem dX6_sees_8 : decode cX6_sees 8 = .ok (.iaload, 1) := by decide +kernel
theorem dX6_sees_9 : decode cX6_sees 9 = .ok (.aload_n 0, 1) := by decide +kernel
theorem dX6_sees_10 : decode cX6_sees 10 = .ok (.getfield 7, 3) := by decide +kernel
theorem dX6_sees_13 : decode cX6_sees 13 = .ok (.bipush 11, 2) := by decide +kernel
theorem dX6_sees_15 : decode cX6_sees 15 = .ok (.iload_n 2, 1) := by decide +kernel
theorem dX6_sees_16 : decode cX6_sees 16 = .ok (.iadd, 1) := by decide +kernel
theorem dX6_sees_17 : decode cX6_sees 17 = .ok (.iaload, 1) := by decide +kernel
theorem dX6_sees_18 : decode cX6_sees 18 = .ok (.if_icmp .le 15, 3) := by decide +kernel
theorem dX6_sees_21 : decode cX6_sees 21 = .ok (.aload_n 0, 1) := by decide +kernel
theorem dX6_sees_22 : decode cX6_sees 22 = .ok (.getfield 7, 3) := by decide +kernel
theorem dX6_sees_25 : decode cX6_sees 25 = .ok (.bipush 11, 2) := by decide +kernel
theorem dX6_sees_27 : decode cX6_sees 27 = .ok (.iload_n 1, 1) := by decide +kernel
theorem dX6_sees_28 : decode cX6_sees 28 = .ok (.iadd, 1) := by decide +kernel
theorem dX6_sees_29 : decode cX6_sees 29 = .ok (.iaload, 1) := by decide +kernel
theorem dX6_sees_30 : decode cX6_sees 30 = .ok (.goto 12, 3) := by decide +kernel
theorem dX6_sees_33 : decode cX6_sees 33 = .ok (.aload_n 0, 1) := by decide +kernel
theorem dX6_sees_34 : decode cX6_sees 34 = .ok (.getfield 7, 3) := by decide +kernel
theorem dX6_sees_37 : decode cX6_sees 37 = .ok (.bipush 11, 2) := by decide +kernel
theorem dX6_sees_39 : decode cX6_sees 39 = .ok (.iload_n 2, 1) := by decide +kernel
theorem dX6_sees_40 : decode cX6_sees 40 = .ok (.iadd, 1) := by decide +kernel
theorem dX6_sees_41 : decode cX6_sees 41 = .ok (.iaload, 1) := by decide +kernel
theorem dX6_sees_42 : decode cX6_sees 42 = .ok (.istore_n 3, 1) := by decide +kernel
theorem dX6_sees_43 : decode cX6_sees 43 = .ok (.iload_n 1, 1) := by decide +kernel
theorem dX6_sees_44 : decode cX6_sees 44 = .ok (.iload_n 2, 1) := by decide +kernel
theorem dX6_sees_45 : decode cX6_sees 45 = .ok (.if_icmp .ge 7, 3) := by decide +kernel
theorem dX6_sees_48 : decode cX6_sees 48 = .ok (.iload_n 1, 1) := by decide +kernel
theorem dX6_sees_49 : decode cX6_sees 49 = .ok (.goto 4, 3) := by decide +kernel
theorem dX6_sees_52 : decode cX6_sees 52 = .ok (.iload_n 2, 1) := by decide +kernel
theorem dX6_sees_53 : decode cX6_sees 53 = .ok (.istore 4, 2) := by decide +kernel
theorem dX6_sees_55 : decode cX6_sees 55 = .ok (.iload_n 1, 1) := by decide +kernel
theorem dX6_sees_56 : decode cX6_sees 56 = .ok (.iload_n 2, 1) := by decide +kernel
theorem dX6_sees_57 : decode cX6_sees 57 = .ok (.if_icmp .ge 7, 3) := by decide +kernel
theorem dX6_sees_60 : decode cX6_sees 60 = .ok (.iload_n 2, 1) := by decide +kernel
theorem dX6_sees_61 : decode cX6_sees 61 = .ok (.goto 4, 3) := by decide +kernel
theorem dX6_sees_64 : decode cX6_sees 64 = .ok (.iload_n 1, 1) := by decide +kernel
theorem dX6_sees_65 : decode cX6_sees 65 = .ok (.istore 5, 2) := by decide +kernel
theorem dX6_sees_67 : decode cX6_sees 67 = .ok (.iload 4, 2) := by decide +kernel
theorem dX6_sees_69 : decode cX6_sees 69 = .ok (.iconst 1, 1) := by decide +kernel
theorem dX6_sees_70 : decode cX6_sees 70 = .ok (.iadd, 1) := by decide +kernel
theorem dX6_sees_71 : decode cX6_sees 71 = .ok (.istore 6, 2) := by decide +kernel
theorem dX6_sees_73 : decode cX6_sees 73 = .ok (.iload 6, 2) := by decide +kernel
theorem dX6_sees_75 : decode cX6_sees 75 = .ok (.iload 5, 2) := by decide +kernel
theorem dX6_sees_77 : decode cX6_sees 77 = .ok (.if_icmp .ge 25, 3) := by decide +kernel
theorem dX6_sees_80 : decode cX6_sees 80 = .ok (.aload_n 0, 1) := by decide +kernel
theorem dX6_sees_81 : decode cX6_sees 81 = .ok (.getfield 7, 3) := by decide +kernel
theorem dX6_sees_84 : decode cX6_sees 84 = .ok (.bipush 11, 2) := by decide +kernel
theorem dX6_sees_86 : decode cX6_sees 86 = .ok (.iload 6, 2) := by decide +kernel
theorem dX6_sees_88 : decode cX6_sees 88 = .ok (.iadd, 1) := by decide +kernel
theorem dX6_sees_89 : decode cX6_sees 89 = .ok (.iaload, 1) := by decide +kernel
theorem dX6_sees_90 : decode cX6_sees 90 = .ok (.iload_n 3, 1) := by decide +kernel
theorem dX6_sees_91 : decode cX6_sees 91 = .ok (.if_icmp .le 5, 3) := by decide +kernel
theorem dX6_sees_94 : decode cX6_sees 94 = .ok (.iconst 0, 1) := by decide +kernel
theorem dX6_sees_95 : decode cX6_sees 95 = .ok (.ireturn, 1) := by decide +kernel
theorem dX6_sees_96 : decode cX6_sees 96 = .ok (.iinc 6 1, 3) := by decide +kernel
theorem dX6_sees_99 : decode cX6_sees 99 = .ok (.goto (-26), 3) := by decide +kernel
theorem dX6_sees_102 : decode cX6_sees 102 = .ok (.iconst 1, 1) := by decide +kernel
theorem dX6_sees_103 : decode cX6_sees 103 = .ok (.ireturn, 1) := by decide +kernel
theorem dX6_strideOf_0 : decode cX6_strideOf 0 = .ok (.aload_n 0, 1) := by decide +kernel
theorem dX6_strideOf_1 : decode cX6_strideOf 1 = .ok (.getfield 7, 3) := by decide +kernel
theorem dX6_strideOf_4 : decode cX6_strideOf 4 = .ok (.bipush 11, 2) := by decide +kernel
theorem dX6_strideOf_6 : decode cX6_strideOf 6 = .ok (.iload_n 2, 1) := by decide +kernel
theorem dX6_strideOf_7 : decode cX6_strideOf 7 = .ok (.iadd, 1) := by decide +kernel
theorem dX6_strideOf_8 : decode cX6_strideOf 8 = .ok (.iaload, 1) := by decide +kernel
theorem dX6_strideOf_9 : decode cX6_strideOf 9 = .ok (.aload_n 0, 1) := by decide +kernel
theorem dX6_strideOf_10 : decode cX6_strideOf 10 = .ok (.getfield 7, 3) := by decide +kernel
theorem dX6_strideOf_13 : decode cX6_strideOf 13 = .ok (.bipush 11, 2) := by decide +kernel
theorem dX6_strideOf_15 : decode cX6_strideOf 15 = .ok (.iload_n 1, 1) := by decide +kernel
theorem dX6_strideOf_16 : decode cX6_strideOf 16 = .ok (.iadd, 1) := by decide +kernel
theorem dX6_strideOf_17 : decode cX6_strideOf 17 = .ok (.iaload, 1) := by decide +kernel
theorem dX6_strideOf_18 : decode cX6_strideOf 18 = .ok (.isub, 1) := by decide +kernel
theorem dX6_strideOf_19 : decode cX6_strideOf 19 = .ok (.istore_n 3, 1) := by decide +kernel
theorem dX6_strideOf_20 : decode cX6_strideOf 20 = .ok (.aload_n 0, 1) := by decide +kernel
theorem dX6_strideOf_21 : decode cX6_strideOf 21 = .ok (.getfield 7, 3) := by decide +kernel
theorem dX6_strideOf_24 : decode cX6_strideOf 24 = .ok (.iconst 1, 1) := by decide +kernel
theorem dX6_strideOf_25 : decode cX6_strideOf 25 = .ok (.iaload, 1) := by decide +kernel
theorem dX6_strideOf_26 : decode cX6_strideOf 26 = .ok (.iload_n 1, 1) := by decide +kernel
theorem dX6_strideOf_27 : decode cX6_strideOf 27 = .ok (.iload_n 2, 1) := by decide +kernel
theorem dX6_strideOf_28 : decode cX6_strideOf 28 = .ok (.isub, 1) := by decide +kernel
theorem dX6_strideOf_29 : decode cX6_strideOf 29 = .ok (.invokestatic 56, 3) := by decide +kernel
theorem dX6_strideOf_32 : decode cX6_strideOf 32 = .ok (.imul, 1) := by decide +kernel
theorem dX6_strideOf_33 : decode cX6_strideOf 33 = .ok (.iload_n 3, 1) := by decide +kernel
theorem dX6_strideOf_34 : decode cX6_strideOf 34 = .ok (.ifCond .le 7, 3) := by decide +kernel
theorem dX6_strideOf_37 : decode cX6_strideOf 37 = .ok (.iload_n 3, 1) := by decide +kernel
theorem dX6_strideOf_38 : decode cX6_strideOf 38 = .ok (.goto 4, 3) := by decide +kernel
theorem dX6_strideOf_41 : decode cX6_strideOf 41 = .ok (.iconst 0, 1) := by decide +kernel
theorem dX6_strideOf_42 : decode cX6_strideOf 42 = .ok (.iadd, 1) := by decide +kernel
theorem dX6_strideOf_43 : decode cX6_strideOf 43 = .ok (.ireturn, 1) := by decide +kernel
theorem dX6_seen_0 : decode cX6_seen 0 = .ok (.iconst 0, 1) := by decide +kernel
theorem dX6_seen_1 : decode cX6_seen 1 = .ok (.istore_n 2, 1) := by decide +kernel
theorem dX6_seen_2 : decode cX6_seen 2 = .ok (.iconst 0, 1) := by decide +kernel
theorem dX6_seen_3 : decode cX6_seen 3 = .ok (.istore_n 3, 1) := by decide +kernel
theorem dX6_seen_4 : decode cX6_seen 4 = .ok (.iload_n 3, 1) := by decide +kernel
theorem dX6_seen_5 : decode cX6_seen 5 = .ok (.bipush 10, 2) := by decide +kernel
theorem dX6_seen_7 : decode cX6_seen 7 = .ok (.if_icmp .ge 28, 3) := by decide +kernel
theorem dX6_seen_10 : decode cX6_seen 10 = .ok (.iload_n 2, 1) := by decide +kernel
theorem dX6_seen_11 : decode cX6_seen 11 = .ok (.aload_n 0, 1) := by decide +kernel
theorem dX6_seen_12 : decode cX6_seen 12 = .ok (.iload_n 1, 1) := by decide +kernel
theorem dX6_seen_13 : decode cX6_seen 13 = .ok (.iload_n 3, 1) := by decide +kernel
theorem dX6_seen_14 : decode cX6_seen 14 = .ok (.invokevirtual 59, 3) := by decide +kernel
theorem dX6_seen_17 : decode cX6_seen 17 = .ok (.ifCond .eq 9, 3) := by decide +kernel
theorem dX6_seen_20 : decode cX6_seen 20 = .ok (.iconst 1, 1) := by decide +kernel
theorem dX6_seen_21 : decode cX6_seen 21 = .ok (.iload_n 3, 1) := by decide +kernel
theorem dX6_seen_22 : decode cX6_seen 22 = .ok (.ishl, 1) := by decide +kernel
theorem dX6_seen_23 : decode cX6_seen 23 = .ok (.goto 4, 3) := by decide +kernel
theorem dX6_seen_26 : decode cX6_seen 26 = .ok (.iconst 0, 1) := by decide +kernel
theorem dX6_seen_27 : decode cX6_seen 27 = .ok (.ior, 1) := by decide +kernel
theorem dX6_seen_28 : decode cX6_seen 28 = .ok (.istore_n 2, 1) := by decide +kernel
theorem dX6_seen_29 : decode cX6_seen 29 = .ok (.iinc 3 1, 3) := by decide +kernel
theorem dX6_seen_32 : decode cX6_seen 32 = .ok (.goto (-28), 3) := by decide +kernel
theorem dX6_seen_35 : decode cX6_seen 35 = .ok (.iload_n 2, 1) := by decide +kernel
theorem dX6_seen_36 : decode cX6_seen 36 = .ok (.ireturn, 1) := by decide +kernel
