theorem dX0_refuse_6 : decode cX0_refuse 6 = .ok (.iadd, 1) := by decide +kernel
theorem dX0_refuse_7 : decode cX0_refuse 7 = .ok (.putfield 55, 3) := by decide +kernel
theorem dX0_refuse_10 : decode cX0_refuse 10 = .ok (.iload_n 1, 1) := by decide +kernel
theorem dX0_refuse_11 : decode cX0_refuse 11 = .ok (.ireturn, 1) := by decide +kernel
theorem dX0_pay_0 : decode cX0_pay 0 = .ok (.aload_n 0, 1) := by decide +kernel
theorem dX0_pay_1 : decode cX0_pay 1 = .ok (.getfield 27, 3) := by decide +kernel
theorem dX0_pay_4 : decode cX0_pay 4 = .ok (.aload_n 0, 1) := by decide +kernel
theorem dX0_pay_5 : decode cX0_pay 5 = .ok (.getfield 46, 3) := by decide +kernel
theorem dX0_pay_8 : decode cX0_pay 8 = .ok (.dup2, 1) := by decide +kernel
theorem dX0_pay_9 : decode cX0_pay 9 = .ok (.iaload, 1) := by decide +kernel
theorem dX0_pay_10 : decode cX0_pay 10 = .ok (.iload_n 1, 1) := by decide +kernel
theorem dX0_pay_11 : decode cX0_pay 11 = .ok (.isub, 1) := by decide +kernel
theorem dX0_pay_12 : decode cX0_pay 12 = .ok (.iastore, 1) := by decide +kernel
theorem dX0_pay_13 : decode cX0_pay 13 = .ok (.aload_n 0, 1) := by decide +kernel
theorem dX0_pay_14 : decode cX0_pay 14 = .ok (.getfield 39, 3) := by decide +kernel
theorem dX0_pay_17 : decode cX0_pay 17 = .ok (.aload_n 0, 1) := by decide +kernel
theorem dX0_pay_18 : decode cX0_pay 18 = .ok (.getfield 46, 3) := by decide +kernel
theorem dX0_pay_21 : decode cX0_pay 21 = .ok (.dup2, 1) := by decide +kernel
theorem dX0_pay_22 : decode cX0_pay 22 = .ok (.iaload, 1) := by decide +kernel
theorem dX0_pay_23 : decode cX0_pay 23 = .ok (.iload_n 1, 1) := by decide +kernel
theorem dX0_pay_24 : decode cX0_pay 24 = .ok (.iadd, 1) := by decide +kernel
theorem dX0_pay_25 : decode cX0_pay 25 = .ok (.iastore, 1) := by decide +kernel
theorem dX0_pay_26 : decode cX0_pay 26 = .ok (.aload_n 0, 1) := by decide +kernel
theorem dX0_pay_27 : decode cX0_pay 27 = .ok (.getfield 15, 3) := by decide +kernel
theorem dX0_pay_30 : decode cX0_pay 30 = .ok (.aload_n 0, 1) := by decide +kernel
theorem dX0_pay_31 : decode cX0_pay 31 = .ok (.getfield 21, 3) := by decide +kernel
theorem dX0_pay_34 : decode cX0_pay 34 = .ok (.aload_n 0, 1) := by decide +kernel
theorem dX0_pay_35 : decode cX0_pay 35 = .ok (.getfield 46, 3) := by decide +kernel
theorem dX0_pay_38 : decode cX0_pay 38 = .ok (.iaload, 1) := by decide +kernel
theorem dX0_pay_39 : decode cX0_pay 39 = .ok (.dup2, 1) := by decide +kernel
theorem dX0_pay_40 : decode cX0_pay 40 = .ok (.iaload, 1) := by decide +kernel
theorem dX0_pay_41 : decode cX0_pay 41 = .ok (.iload_n 1, 1) := by decide +kernel
theorem dX0_pay_42 : decode cX0_pay 42 = .ok (.iadd, 1) := by decide +kernel
theorem dX0_pay_43 : decode cX0_pay 43 = .ok (.iastore, 1) := by decide +kernel
theorem dX0_pay_44 : decode cX0_pay 44 = .ok (.return_, 1) := by decide +kernel
theorem dX0_endMove_0 : decode cX0_endMove 0 = .ok (.aload_n 0, 1) := by decide +kernel
theorem dX0_endMove_1 : decode cX0_endMove 1 = .ok (.getfield 18, 3) := by decide +kernel
theorem dX0_endMove_4 : decode cX0_endMove 4 = .ok (.iconst 0, 1) := by decide +kernel
theorem dX0_endMove_5 : decode cX0_endMove 5 = .ok (.iaload, 1) := by decide +kernel
theorem dX0_endMove_6 : decode cX0_endMove 6 = .ok (.aload_n 0, 1) := by decide +kernel
theorem dX0_endMove_7 : decode cX0_endMove 7 = .ok (.getfield 24, 3) := by decide +kernel
theorem dX0_endMove_10 : decode cX0_endMove 10 = .ok (.aload_n 0, 1) := by decide +kernel
theorem dX0_endMove_11 : decode cX0_endMove 11 = .ok (.getfield 46, 3) := by decide +kernel
theorem dX0_endMove_14 : decode cX0_endMove 14 = .ok (.iaload, 1) := by decide +kernel
theorem dX0_endMove_15 : decode cX0_endMove 15 = .ok (.invokestatic 79, 3) := by decide +kernel
theorem dX0_endMove_18 : decode cX0_endMove 18 = .ok (.istore_n 1, 1) := by decide +kernel
theorem dX0_endMove_19 : decode cX0_endMove 19 = .ok (.aload_n 0, 1) := by decide +kernel
theorem dX0_endMove_20 : decode cX0_endMove 20 = .ok (.getfield 24, 3) := by decide +kernel
theorem dX0_endMove_23 : decode cX0_endMove 23 = .ok (.aload_n 0, 1) := by decide +kernel
theorem dX0_endMove_24 : decode cX0_endMove 24 = .ok (.getfield 46, 3) := by decide +kernel
theorem dX0_endMove_27 : decode cX0_endMove 27 = .ok (.dup2, 1) := by decide +kernel
theorem dX0_endMove_28 : decode cX0_endMove 28 = .ok (.iaload, 1) := by decide +kernel
theorem dX0_endMove_29 : decode cX0_endMove 29 = .ok (.iload_n 1, 1) := by decide +kernel
theorem dX0_endMove_30 : decode cX0_endMove 30 = .ok (.isub, 1) := by decide +kernel
theorem dX0_endMove_31 : decode cX0_endMove 31 = .ok (.iastore, 1) := by decide +kernel
theorem dX0_endMove_32 : decode cX0_endMove 32 = .ok (.aload_n 0, 1) := by decide +kernel
theorem dX0_endMove_33 : decode cX0_endMove 33 = .ok (.getfield 27, 3) := by decide +kernel
theorem dX0_endMove_36 : decode cX0_endMove 36 = .ok (.aload_n 0, 1) := by decide +kernel
theorem dX0_endMove_37 : decode cX0_endMove 37 = .ok (.getfield 46, 3) := by decide +kernel
theorem dX0_endMove_40 : decode cX0_endMove 40 = .ok (.dup2, 1) := by decide +kernel
theorem dX0_endMove_41 : decode cX0_endMove 41 = .ok (.iaload, 1) := by decide +kernel
theorem dX0_endMove_42 : decode cX0_endMove 42 = .ok (.iload_n 1, 1) := by decide +kernel
theorem dX0_endMove_43 : decode cX0_endMove 43 = .ok (.iadd, 1) := by decide +kernel
theorem dX0_endMove_44 : decode cX0_endMove 44 = .ok (.iastore, 1) := by decide +kernel
theorem dX0_endMove_45 : decode cX0_endMove 45 = .ok (.aload_n 0, 1) := by decide +kernel
theorem dX0_endMove_46 : decode cX0_endMove 46 = .ok (.getfield 30, 3) := by decide +kernel
theorem dX0_endMove_49 : decode cX0_endMove 49 = .ok (.aload_n 0, 1) := by decide +kernel
theorem dX0_endMove_50 : decode cX0_endMove 50 = .ok (.getfield 46, 3) := by decide +kernel
theorem dX0_endMove_53 : decode cX0_endMove 53 = .ok (.dup2, 1) := by decide +kernel
theorem dX0_endMove_54 : decode cX0_endMove 54 = .ok (.iaload, 1) := by decide +kernel
theorem dX0_endMove_55 : decode cX0_endMove 55 = .ok (.iconst 1, 1) := by decide +kernel
theorem dX0_endMove_56 : decode cX0_endMove 56 = .ok (.iadd, 1) := by decide +kernel
theorem dX0_endMove_57 : decode cX0_endMove 57 = .ok (.iastore, 1) := by decide +kernel
theorem dX0_endMove_58 : decode cX0_endMove 58 = .ok (.aload_n 0, 1) := by decide +kernel
theorem dX0_endMove_59 : decode cX0_endMove 59 = .ok (.dup, 1) := by decide +kernel
theorem dX0_endMove_60 : decode cX0_endMove 60 = .ok (.getfield 52, 3) := by decide +kernel
theorem dX0_endMove_63 : decode cX0_endMove 63 = .ok (.iconst 1, 1) := by decide +kernel
theorem dX0_endMove_64 : decode cX0_endMove 64 = .ok (.iadd, 1) := by decide +kernel
theorem dX0_endMove_65 : decode cX0_endMove 65 = .ok (.putfield 52, 3) := by decide +kernel
theorem dX0_endMove_68 : decode cX0_endMove 68 = .ok (.aload_n 0, 1) := by decide +kernel
theorem dX0_endMove_69 : decode cX0_endMove 69 = .ok (.aload_n 0, 1) := by decide +kernel
theorem dX0_endMove_70 : decode cX0_endMove 70 = .ok (.getfield 46, 3) := by decide +kernel
theorem dX0_endMove_73 : decode cX0_endMove 73 = .ok (.iconst 1, 1) := by decide +kernel
theorem dX0_endMove_74 : decode cX0_endMove 74 = .ok (.iadd, 1) := by decide +kernel
theorem dX0_endMove_75 : decode cX0_endMove 75 = .ok (.aload_n 0, 1) := by decide +kernel
theorem dX0_endMove_76 : decode cX0_endMove 76 = .ok (.getfield 42, 3) := by decide +kernel
theorem dX0_endMove_79 : decode cX0_endMove 79 = .ok (.if_icmp .ge 12, 3) := by decide +kernel
theorem dX0_endMove_82 : decode cX0_endMove 82 = .ok (.aload_n 0, 1) := by decide +kernel
theorem dX0_endMove_83 : decode cX0_endMove 83 = .ok (.getfield 46, 3) := by decide +kernel
theorem dX0_endMove_86 : decode cX0_endMove 86 = .ok (.iconst 1, 1) := by decide +kernel
theorem dX0_endMove_87 : decode cX0_endMove 87 = .ok (.iadd, 1) := by decide +kernel
theorem dX0_endMove_88 : decode cX0_endMove 88 = .ok (.goto 4, 3) := by decide +kernel
theorem dX0_endMove_91 : decode cX0_endMove 91 = .ok (.iconst 0, 1) := by decide +kernel
theorem dX0_endMove_92 : decode cX0_endMove 92 = .ok (.putfield 46, 3) := by decide +kernel
theorem dX0_endMove_95 : decode cX0_endMove 95 = .ok (.iload_n 1, 1) := by decide +kernel
theorem dX0_endMove_96 : decode cX0_endMove 96 = .ok (.ireturn, 1) := by decide +kernel
theorem dX0_sandBelow_0 : decode cX0_sandBelow 0 = .ok (.iconst 0, 1) := by decide +kernel
theorem dX0_sandBelow_1 : decode cX0_sandBelow 1 = .ok (.istore_n 1, 1) := by decide +kernel
theorem dX0_sandBelow_2 : decode cX0_sandBelow 2 = .ok (.iconst 0, 1) := by decide +kernel
theorem dX0_sandBelow_3 : decode cX0_sandBelow 3 = .ok (.istore_n 2, 1) := by decide +kernel
theorem dX0_sandBelow_4 : decode cX0_sandBelow 4 = .ok (.iload_n 2, 1) := by decide +kernel
theorem dX0_sandBelow_5 : decode cX0_sandBelow 5 = .ok (.aload_n 0, 1) := by decide +kernel
theorem dX0_sandBelow_6 : decode cX0_sandBelow 6 = .ok (.getfield 42, 3) := by decide +kernel
theorem dX0_sandBelow_9 : decode cX0_sandBelow 9 = .ok (.if_icmp .ge 18, 3) := by decide +kernel
theorem dX0_sandBelow_12 : decode cX0_sandBelow 12 = .ok (.iload_n 1, 1) := by decide +kernel
theorem dX0_sandBelow_13 : decode cX0_sandBelow 13 = .ok (.aload_n 0, 1) := by decide +kernel
theorem dX0_sandBelow_14 : decode cX0_sandBelow 14 = .ok (.getfield 27, 3) := by decide +kernel
theorem dX0_sandBelow_17 : decode cX0_sandBelow 17 = .ok (.iload_n 2, 1) := by decide +kernel
theorem dX0_sandBelow_18 : decode cX0_sandBelow 18 = .ok (.iaload, 1) := by decide +kernel
theorem dX0_sandBelow_19 : decode cX0_sandBelow 19 = .ok (.iadd, 1) := by decide +kernel
theorem dX0_sandBelow_20 : decode cX0_sandBelow 20 = .ok (.istore_n 1, 1) := by decide +kernel
theorem dX0_sandBelow_21 : decode cX0_sandBelow 21 = .ok (.iinc 2 1, 3) := by decide +kernel
theorem dX0_sandBelow_24 : decode cX0_sandBelow 24 = .ok (.goto (-20), 3) := by decide +kernel
theorem dX0_sandBelow_27 : decode cX0_sandBelow 27 = .ok (.iload_n 1, 1) := by decide +kernel
theorem dX0_sandBelow_28 : decode cX0_sandBelow 28 = .ok (.ireturn, 1) := by decide +kernel
theorem dX0_sandInGlasses_0 : decode cX0_sandInGlasses 0 = .ok (.aload_n 0, 1) := by decide +kernel
theorem dX0_sandInGlasses_1 : decode cX0_sandInGlasses 1 = .ok (.invokevirtual 118, 3) := by decide +kernel
theorem dX0_sandInGlasses_4 : decode cX0_sandInGlasses 4 = .ok (.istore_n 1, 1) := by decide +kernel
theorem dX0_sandInGlasses_5 : decode cX0_sandInGlasses 5 = .ok (.iconst 0, 1) := by decide +kernel
theorem dX0_sandInGlasses_6 : decode cX0_sandInGlasses 6 = .ok (.istore_n 2, 1) := by decide +kernel
theorem dX0_sandInGlasses_7 : decode cX0_sandInGlasses 7 = .ok (.iload_n 2, 1) := by decide +kernel
theorem dX0_sandInGlasses_8 : decode cX0_sandInGlasses 8 = .ok (.aload_n 0, 1) := by decide +kernel
theorem dX0_sandInGlasses_9 : decode cX0_sandInGlasses 9 = .ok (.getfield 42, 3) := by decide +kernel
theorem dX0_sandInGlasses_12 : decode cX0_sandInGlasses 12 = .ok (.if_icmp .ge 18, 3) := by decide +kernel
theorem dX0_sandInGlasses_15 : decode cX0_sandInGlasses 15 = .ok (.iload_n 1, 1) := by decide +kernel
theorem dX0_sandInGlasses_16 : decode cX0_sandInGlasses 16 = .ok (.aload_n 0, 1) := by decide +kernel
theorem dX0_sandInGlasses_17 : decode cX0_sandInGlasses 17 = .ok (.getfield 24, 3) := by decide +kernel
theorem dX0_sandInGlasses_20 : decode cX0_sandInGlasses 20 = .ok (.iload_n 2, 1) := by decide +kernel
theorem dX0_sandInGlasses_21 : decode cX0_sandInGlasses 21 = .ok (.iaload, 1) := by decide +kernel
theorem dX0_sandInGlasses_22 : decode cX0_sandInGlasses 22 = .ok (.iadd, 1) := by decide +kernel
theorem dX0_sandInGlasses_23 : decode cX0_sandInGlasses 23 = .ok (.istore_n 1, 1) := by decide +kernel
theorem dX0_sandInGlasses_24 : decode cX0_sandInGlasses 24 = .ok (.iinc 2 1, 3) := by decide +kernel
theorem dX0_sandInGlasses_27 : decode cX0_sandInGlasses 27 = .ok (.goto (-20), 3) := by decide +kernel
theorem dX0_sandInGlasses_30 : decode cX0_sandInGlasses 30 = .ok (.iload_n 1, 1) := by decide +kernel
theorem dX0_sandInGlasses_31 : decode cX0_sandInGlasses 31 = .ok (.ireturn, 1) := by decide +kernel
theorem dX0_sandOnTowers_0 : decode cX0_sandOnTowers 0 = .ok (.iconst 0, 1) := by decide +kernel
theorem dX0_sandOnTowers_1 : decode cX0_sandOnTowers 1 = .ok (.istore_n 1, 1) := by decide +kernel
theorem dX0_sandOnTowers_2 : decode cX0_sandOnTowers 2 = .ok (.iconst 0, 1) := by decide +kernel
theorem dX0_sandOnTowers_3 : decode cX0_sandOnTowers 3 = .ok (.istore_n 2, 1) := by decide +kernel
theorem dX0_sandOnTowers_4 : decode cX0_sandOnTowers 4 = .ok (.iload_n 2, 1) := by decide +kernel
theorem dX0_sandOnTowers_5 : decode cX0_sandOnTowers 5 = .ok (.bipush 10, 2) := by decide +kernel
theorem dX0_sandOnTowers_7 : decode cX0_sandOnTowers 7 = .ok (.if_icmp .ge 18, 3) := by decide +kernel
theorem dX0_sandOnTowers_10 : decode cX0_sandOnTowers 10 = .ok (.iload_n 1, 1) := by decide +kernel
theorem dX0_sandOnTowers_11 : decode cX0_sandOnTowers 11 = .ok (.aload_n 0, 1) := by decide +kernel
theorem dX0_sandOnTowers_12 : decode cX0_sandOnTowers 12 = .ok (.getfield 15, 3) := by decide +kernel
theorem dX0_sandOnTowers_15 : decode cX0_sandOnTowers 15 = .ok (.iload_n 2, 1) := by decide +kernel
theorem dX0_sandOnTowers_16 : decode cX0_sandOnTowers 16 = .ok (.iaload, 1) := by decide +kernel
theorem dX0_sandOnTowers_17 : decode cX0_sandOnTowers 17 = .ok (.iadd, 1) := by decide +kernel
theorem dX0_sandOnTowers_18 : decode cX0_sandOnTowers 18 = .ok (.istore_n 1, 1) := by decide +kernel
theorem dX0_sandOnTowers_19 : decode cX0_sandOnTowers 19 = .ok (.iinc 2 1, 3) := by decide +kernel
theorem dX0_sandOnTowers_22 : decode cX0_sandOnTowers 22 = .ok (.goto (-18), 3) := by decide +kernel
theorem dX0_sandOnTowers_25 : decode cX0_sandOnTowers 25 = .ok (.iload_n 1, 1) := by decide +kernel
theorem dX0_sandOnTowers_26 : decode cX0_sandOnTowers 26 = .ok (.ireturn, 1) := by decide +kernel
theorem dX1_init_0 : decode cX1_init 0 = .ok (.aload_n 0, 1) := by decide +kernel
theorem dX1_init_1 : decode cX1_init 1 = .ok (.invokespecial 1, 3) := by decide +kernel
theorem dX1_init_4 : decode cX1_init 4 = .ok (.aload_n 0, 1) := by decide +kernel
theorem dX1_init_5 : decode cX1_init 5 = .ok (.bipush 6, 2) := by decide +kernel
theorem dX1_init_7 : decode cX1_init 7 = .ok (.anewarray 9, 3) := by decide +kernel
theorem dX1_init_10 : decode cX1_init 10 = .ok (.putfield 11, 3) := by decide +kernel
theorem dX1_init_13 : decode cX1_init 13 = .ok (.aload_n 0, 1) := by decide +kernel
theorem dX1_init_14 : decode cX1_init 14 = .ok (.iconst 0, 1) := by decide +kernel
theorem dX1_init_15 : decode cX1_init 15 = .ok (.putfield 15, 3) := by decide +kernel
theorem dX1_init_18 : decode cX1_init 18 = .ok (.aload_n 0, 1) := by decide +kernel
theorem dX1_init_19 : decode cX1_init 19 = .ok (.iconst 0, 1) := by decide +kernel
theorem dX1_init_20 : decode cX1_init 20 = .ok (.putfield 19, 3) := by decide +kernel
theorem dX1_init_23 : decode cX1_init 23 = .ok (.iconst 0, 1) := by decide +kernel
theorem dX1_init_24 : decode cX1_init 24 = .ok (.istore_n 1, 1) := by decide +kernel
theorem dX1_init_25 : decode cX1_init 25 = .ok (.iload_n 1, 1) := by decide +kernel
theorem dX1_init_26 : decode cX1_init 26 = .ok (.bipush 6, 2) := by decide +kernel
theorem dX1_init_28 : decode cX1_init 28 = .ok (.if_icmp .ge 22, 3) := by decide +kernel
theorem dX1_init_31 : decode cX1_init 31 = .ok (.aload_n 0, 1) := by decide +kernel
theorem dX1_init_32 : decode cX1_init 32 = .ok (.getfield 11, 3) := by decide +kernel
theorem dX1_init_35 : decode cX1_init 35 = .ok (.iload_n 1, 1) := by decide +kernel
theorem dX1_init_36 : decode cX1_init 36 = .ok (.new 9, 3) := by decide +kernel
theorem dX1_init_39 : decode cX1_init 39 = .ok (.dup, 1) := by decide +kernel
theorem dX1_init_40 : decode cX1_init 40 = .ok (.invokespecial 22, 3) := by decide +kernel
theorem dX1_init_43 : decode cX1_init 43 = .ok (.aastore, 1) := by decide +kernel
theorem dX1_init_44 : decode cX1_init 44 = .ok (.iinc 1 1, 3) := by decide +kernel
theorem dX1_init_47 : decode cX1_init 47 = .ok (.goto (-22), 3) := by decide +kernel
theorem dX1_init_50 : decode cX1_init 50 = .ok (.return_, 1) := by decide +kernel
theorem dX1_save_0 : decode cX1_save 0 = .ok (.aload_n 0, 1) := by decide +kernel
theorem dX1_save_1 : decode cX1_save 1 = .ok (.getfield 19, 3) := by decide +kernel
theorem dX1_save_4 : decode cX1_save 4 = .ok (.bipush 6, 2) := by decide +kernel
theorem dX1_save_6 : decode cX1_save 6 = .ok (.if_icmp .ne 26, 3) := by decide +kernel
theorem dX1_save_9 : decode cX1_save 9 = .ok (.aload_n 0, 1) := by decide +kernel
theorem dX1_save_10 : decode cX1_save 10 = .ok (.aload_n 0, 1) := by decide +kernel
theorem dX1_save_11 : decode cX1_save 11 = .ok (.getfield 15, 3) := by decide +kernel
theorem dX1_save_14 : decode cX1_save 14 = .ok (.iconst 1, 1) := by decide +kernel
theorem dX1_save_15 : decode cX1_save 15 = .ok (.iadd, 1) := by decide +kernel
theorem dX1_save_16 : decode cX1_save 16 = .ok (.bipush 6, 2) := by decide +kernel
theorem dX1_save_18 : decode cX1_save 18 = .ok (.irem, 1) := by decide +kernel
theorem dX1_save_19 : decode cX1_save 19 = .ok (.putfield 15, 3) := by decide +kernel
theorem dX1_save_22 : decode cX1_save 22 = .ok (.aload_n 0, 1) := by decide +kernel
theorem dX1_save_23 : decode cX1_save 23 = .ok (.dup, 1) := by decide +kernel
theorem dX1_save_24 : decode cX1_save 24 = .ok (.getfield 19, 3) := by decide +kernel
theorem dX1_save_27 : decode cX1_save 27 = .ok (.iconst 1, 1) := by decide +kernel
theorem dX1_save_28 : decode cX1_save 28 = .ok (.isub, 1) := by decide +kernel
theorem dX1_save_29 : decode cX1_save 29 = .ok (.putfield 19, 3) := by decide +kernel
theorem dX1_save_32 : decode cX1_save 32 = .ok (.aload_n 0, 1) := by decide +kernel
theorem dX1_save_33 : decode cX1_save 33 = .ok (.getfield 11, 3) := by decide +kernel
theorem dX1_save_36 : decode cX1_save 36 = .ok (.aload_n 0, 1) := by decide +kernel
theorem dX1_save_37 : decode cX1_save 37 = .ok (.getfield 15, 3) := by decide +kernel
theorem dX1_save_40 : decode cX1_save 40 = .ok (.aload_n 0, 1) := by decide +kernel
theorem dX1_save_41 : decode cX1_save 41 = .ok (.getfield 19, 3) := by decide +kernel
theorem dX1_save_44 : decode cX1_save 44 = .ok (.iadd, 1) := by decide +kernel
theorem dX1_save_45 : decode cX1_save 45 = .ok (.bipush 6, 2) := by decide +kernel
theorem dX1_save_47 : decode cX1_save 47 = .ok (.irem, 1) := by decide +kernel
theorem dX1_save_48 : decode cX1_save 48 = .ok (.aaload, 1) := by decide +kernel
theorem dX1_save_49 : decode cX1_save 49 = .ok (.aload_n 1, 1) := by decide +kernel
theorem dX1_save_50 : decode cX1_save 50 = .ok (.invokevirtual 23, 3) := by decide +kernel
theorem dX1_save_53 : decode cX1_save 53 = .ok (.aload_n 0, 1) := by decide +kernel
theorem dX1_save_54 : decode cX1_save 54 = .ok (.dup, 1) := by decide +kernel
theorem dX1_save_55 : decode cX1_save 55 = .ok (.getfield 19, 3) := by decide +kernel
theorem dX1_save_58 : decode cX1_save 58 = .ok (.iconst 1, 1) := by decide +kernel
theorem dX1_save_59 : decode cX1_save 59 = .ok (.iadd, 1) := by decide +kernel
theorem dX1_save_60 : decode cX1_save 60 = .ok (.putfield 19, 3) := by decide +kernel
theorem dX1_save_63 : decode cX1_save 63 = .ok (.return_, 1) := by decide +kernel
theorem dX2_init_0 : decode cX2_init 0 = .ok (.aload_n 0, 1) := by decide +kernel
theorem dX2_init_1 : decode cX2_init 1 = .ok (.invokespecial 3, 3) := by decide +kernel
theorem dX2_init_4 : decode cX2_init 4 = .ok (.aload_n 0, 1) := by decide +kernel
theorem dX2_init_5 : decode cX2_init 5 = .ok (.bipush 60, 2) := by decide +kernel
theorem dX2_init_7 : decode cX2_init 7 = .ok (.newarray .int, 2) := by decide +kernel
theorem dX2_init_9 : decode cX2_init 9 = .ok (.putfield 11, 3) := by decide +kernel
theorem dX2_init_12 : decode cX2_init 12 = .ok (.aload_n 0, 1) := by decide +kernel
theorem dX2_init_13 : decode cX2_init 13 = .ok (.iconst 0, 1) := by decide +kernel
theorem dX2_init_14 : decode cX2_init 14 = .ok (.putfield 15, 3) := by decide +kernel
theorem dX2_init_17 : decode cX2_init 17 = .ok (.return_, 1) := by decide +kernel
theorem dX3_init_0 : decode cX3_init 0 = .ok (.aload_n 0, 1) := by decide +kernel
theorem dX3_init_1 : decode cX3_init 1 = .ok (.invokespecial 3, 3) := by decide +kernel
theorem dX3_init_4 : decode cX3_init 4 = .ok (.aload_n 0, 1) := by decide +kernel
theorem dX3_init_5 : decode cX3_init 5 = .ok (.bipush 10, 2) := by decide +kernel
theorem dX3_init_7 : decode cX3_init 7 = .ok (.newarray .int, 2) := by decide +kernel
theorem dX3_init_9 : decode cX3_init 9 = .ok (.putfield 9, 3) := by decide +kernel
theorem dX3_init_12 : decode cX3_init 12 = .ok (.aload_n 0, 1) := by decide +kernel
theorem dX3_init_13 : decode cX3_init 13 = .ok (.iconst 0, 1) := by decide +kernel
theorem dX3_init_14 : decode cX3_init 14 = .ok (.putfield 15, 3) := by decide +kernel
theorem dX3_init_17 : decode cX3_init 17 = .ok (.aload_n 0, 1) := by decide +kernel
theorem dX3_init_18 : decode cX3_init 18 = .ok (.iconst 0, 1) := by decide +kernel
theorem dX3_init_19 : decode cX3_init 19 = .ok (.putfield 19, 3) := by decide +kernel
theorem dX3_init_22 : decode cX3_init 22 = .ok (.aload_n 0, 1) := by decide +kernel
theorem dX3_init_23 : decode cX3_init 23 = .ok (.iconst 0, 1) := by decide +kernel
theorem dX3_init_24 : decode cX3_init 24 = .ok (.putfield 22, 3) := by decide +kernel
theorem dX3_init_27 : decode cX3_init 27 = .ok (.return_, 1) := by decide +kernel
theorem dX4_init_0 : decode cX4_init 0 = .ok (.aload_n 0, 1) := by decide +kernel
theorem dX4_init_1 : decode cX4_init 1 = .ok (.invokespecial 3, 3) := by decide +kernel
theorem dX4_init_4 : decode cX4_init 4 = .ok (.aload_n 0, 1) := by decide +kernel
theorem dX4_init_5 : decode cX4_init 5 = .ok (.bipush 10, 2) := by decide +kernel
theorem dX4_init_7 : decode cX4_init 7 = .ok (.bipush 10, 2) := by decide +kernel
theorem dX4_init_9 : decode cX4_init 9 = .ok (.multianewarray 9 2, 4) := by decide +kernel
theorem dX4_init_13 : decode cX4_init 13 = .ok (.putfield 11, 3) := by decide +kernel
theorem dX4_init_16 : decode cX4_init 16 = .ok (.aload_n 0, 1) := by decide +kernel
theorem dX4_init_17 : decode cX4_init 17 = .ok (.bipush 10, 2) := by decide +kernel
theorem dX4_init_19 : decode cX4_init 19 = .ok (.bipush 10, 2) := by decide +kernel
theorem dX4_init_21 : decode cX4_init 21 = .ok (.multianewarray 9 2, 4) := by decide +kernel
theorem dX4_init_25 : decode cX4_init 25 = .ok (.putfield 16, 3) := by decide +kernel
theorem dX4_init_28 : decode cX4_init 28 = .ok (.aload_n 0, 1) := by decide +kernel
theorem dX4_init_29 : decode cX4_init 29 = .ok (.bipush 10, 2) := by decide +kernel
theorem dX4_init_31 : decode cX4_init 31 = .ok (.newarray .int, 2) := by decide +kernel
theorem dX4_init_33 : decode cX4_init 33 = .ok (.putfield 19, 3) := by decide +kernel
theorem dX4_init_36 : decode cX4_init 36 = .ok (.aload_n 0, 1) := by decide +kernel
theorem dX4_init_37 : decode cX4_init 37 = .ok (.bipush 10, 2) := by decide +kernel
theorem dX4_init_39 : decode cX4_init 39 = .ok (.newarray .boolean, 2) := by decide +kernel
theorem dX4_init_41 : decode cX4_init 41 = .ok (.putfield 23, 3) := by decide +kernel
theorem dX4_init_44 : decode cX4_init 44 = .ok (.return_, 1) := by decide +kernel
theorem dX5_init_0 : decode cX5_init 0 = .ok (.aload_n 0, 1) := by decide +kernel
theorem dX5_init_1 : decode cX5_init 1 = .ok (.invokespecial 1, 3) := by decide +kernel
theorem dX5_init_4 : decode cX5_init 4 = .ok (.aload_n 0, 1) := by decide +kernel
theorem dX5_init_5 : decode cX5_init 5 = .ok (.new 7, 3) := by decide +kernel
theorem dX5_init_8 : decode cX5_init 8 = .ok (.dup, 1) := by decide +kernel
theorem dX5_init_9 : decode cX5_init 9 = .ok (.invokespecial 9, 3) := by decide +kernel
theorem dX5_init_12 : decode cX5_init 12 = .ok (.putfield 10, 3) := by decide +kernel
theorem dX5_init_15 : decode cX5_init 15 = .ok (.aload_n 0, 1) := by decide +kernel
theorem dX5_init_16 : decode cX5_init 16 = .ok (.iconst 2, 1) := by decide +kernel
theorem dX5_init_17 : decode cX5_init 17 = .ok (.anewarray 7, 3) := by decide +kernel
theorem dX5_init_20 : decode cX5_init 20 = .ok (.putfield 16, 3) := by decide +kernel
theorem dX5_init_23 : decode cX5_init 23 = .ok (.aload_n 0, 1) := by decide +kernel
theorem dX5_init_24 : decode cX5_init 24 = .ok (.iconst 2, 1) := by decide +kernel
theorem dX5_init_25 : decode cX5_init 25 = .ok (.newarray .boolean, 2) := by decide +kernel
theorem dX5_init_27 : decode cX5_init 27 = .ok (.putfield 20, 3) := by decide +kernel
theorem dX5_init_30 : decode cX5_init 30 = .ok (.aload_n 0, 1) := by decide +kernel
theorem dX5_init_31 : decode cX5_init 31 = .ok (.new 24, 3) := by decide +kernel
theorem dX5_init_34 : decode cX5_init 34 = .ok (.dup, 1) := by decide +kernel
theorem dX5_init_35 : decode cX5_init 35 = .ok (.invokespecial 26, 3) := by decide +kernel
theorem dX5_init_38 : decode cX5_init 38 = .ok (.putfield 27, 3) := by decide +kernel
theorem dX5_init_41 : decode cX5_init 41 = .ok (.aload_n 0, 1) := by decide +kernel
theorem dX5_init_42 : decode cX5_init 42 = .ok (.new 31, 3) := by decide +kernel
theorem dX5_init_45 : decode cX5_init 45 = .ok (.dup, 1) := by decide +kernel
theorem dX5_init_46 : decode cX5_init 46 = .ok (.invokespecial 33, 3) := by decide +kernel
theorem dX5_init_49 : decode cX5_init 49 = .ok (.putfield 34, 3) := by decide +kernel
theorem dX5_init_52 : decode cX5_init 52 = .ok (.aload_n 0, 1) := by decide +kernel
theorem dX5_init_53 : decode cX5_init 53 = .ok (.new 38, 3) := by decide +kernel
theorem dX5_init_56 : decode cX5_init 56 = .ok (.dup, 1) := by decide +kernel
theorem dX5_init_57 : decode cX5_init 57 = .ok (.invokespecial 40, 3) := by decide +kernel
theorem dX5_init_60 : decode cX5_init 60 = .ok (.putfield 41, 3) := by decide +kernel
theorem dX5_init_63 : decode cX5_init 63 = .ok (.aload_n 0, 1) := by decide +kernel
theorem dX5_init_64 : decode cX5_init 64 = .ok (.new 45, 3) := by decide +kernel
theorem dX5_init_67 : decode cX5_init 67 = .ok (.dup, 1) := by decide +kernel
theorem dX5_init_68 : decode cX5_init 68 = .ok (.invokespecial 47, 3) := by decide +kernel
theorem dX5_init_71 : decode cX5_init 71 = .ok (.putfield 48, 3) := by decide +kernel
theorem dX5_init_74 : decode cX5_init 74 = .ok (.iconst 0, 1) := by decide +kernel
theorem dX5_init_75 : decode cX5_init 75 = .ok (.istore_n 1, 1) := by decide +kernel
theorem dX5_init_76 : decode cX5_init 76 = .ok (.iload_n 1, 1) := by decide +kernel
theorem dX5_init_77 : decode cX5_init 77 = .ok (.iconst 2, 1) := by decide +kernel
theorem dX5_init_78 : decode cX5_init 78 = .ok (.if_icmp .ge 22, 3) := by decide +kernel
theorem dX5_init_81 : decode cX5_init 81 = .ok (.aload_n 0, 1) := by decide +kernel
theorem dX5_init_82 : decode cX5_init 82 = .ok (.getfield 16, 3) := by decide +kernel
theorem dX5_init_85 : decode cX5_init 85 = .ok (.iload_n 1, 1) := by decide +kernel
theorem dX5_init_86 : decode cX5_init 86 = .ok (.new 7, 3) := by decide +kernel
theorem dX5_init_89 : decode cX5_init 89 = .ok (.dup, 1) := by decide +kernel
theorem dX5_init_90 : decode cX5_init 90 = .ok (.invokespecial 9, 3) := by decide +kernel
theorem dX5_init_93 : decode cX5_init 93 = .ok (.aastore, 1) := by decide +kernel
theorem dX5_init_94 : decode cX5_init 94 = .ok (.iinc 1 1, 3) := by decide +kernel
theorem dX5_init_97 : decode cX5_init 97 = .ok (.goto (-21), 3) := by decide +kernel
theorem dX5_init_100 : decode cX5_init 100 = .ok (.return_, 1) := by decide +kernel
theorem dX5_height_0 : decode cX5_height 0 = .ok (.iload_n 1, 1) := by decide +kernel
theorem dX5_height_1 : decode cX5_height 1 = .ok (.invokestatic 52, 3) := by decide +kernel
theorem dX5_height_4 : decode cX5_height 4 = .ok (.ifCond .ne 13, 3) := by decide +kernel
theorem dX5_height_7 : decode cX5_height 7 = .ok (.new 56, 3) := by decide +kernel
theorem dX5_height_10 : decode cX5_height 10 = .ok (.dup, 1) := by decide +kernel
theorem dX5_height_11 : decode cX5_height 11 = .ok (.ldc 58, 2) := by decide +kernel
theorem dX5_height_13 : decode cX5_height 13 = .ok (.invokespecial 60, 3) := by decide +kernel
theorem dX5_height_16 : decode cX5_height 16 = .ok (.athrow, 1) := by decide +kernel
theorem dX5_height_17 : decode cX5_height 17 = .ok (.iload_n 2, 1) := by decide +kernel
theorem dX5_height_18 : decode cX5_height 18 = .ok (.ifCond .lt 9, 3) := by decide +kernel
theorem dX5_height_21 : decode cX5_height 21 = .ok (.iload_n 2, 1) := by decide +kernel
theorem dX5_height_22 : decode cX5_height 22 = .ok (.bipush 9, 2) := by decide +kernel
theorem dX5_height_24 : decode cX5_height 24 = .ok (.if_icmp .le 13, 3) := by decide +kernel
theorem dX5_height_27 : decode cX5_height 27 = .ok (.new 63, 3) := by decide +kernel
theorem dX5_height_30 : decode cX5_height 30 = .ok (.dup, 1) := by decide +kernel
theorem dX5_height_31 : decode cX5_height 31 = .ok (.ldc 65, 2) := by decide +kernel
theorem dX5_height_33 : decode cX5_height 33 = .ok (.invokespecial 67, 3) := by decide +kernel
theorem dX5_height_36 : decode cX5_height 36 = .ok (.athrow, 1) := by decide +kernel
theorem dX5_height_37 : decode cX5_height 37 = .ok (.aload_n 0, 1) := by decide +kernel
theorem dX5_height_38 : decode cX5_height 38 = .ok (.getfield 27, 3) := by decide +kernel
theorem dX5_height_41 : decode cX5_height 41 = .ok (.aload_n 0, 1) := by decide +kernel
theorem dX5_height_42 : decode cX5_height 42 = .ok (.getfield 10, 3) := by decide +kernel
theorem dX5_height_45 : decode cX5_height 45 = .ok (.invokevirtual 68, 3) := by decide +kernel
theorem dX5_height_48 : decode cX5_height 48 = .ok (.aload_n 0, 1) := by decide +kernel
theorem dX5_height_49 : decode cX5_height 49 = .ok (.getfield 10, 3) := by decide +kernel
theorem dX5_height_52 : decode cX5_height 52 = .ok (.getfield 72, 3) := by decide +kernel
theorem dX5_height_55 : decode cX5_height 55 = .ok (.iload_n 1, 1) := by decide +kernel
theorem dX5_height_56 : decode cX5_height 56 = .ok (.iaload, 1) := by decide +kernel
theorem dX5_height_57 : decode cX5_height 57 = .ok (.istore_n 3, 1) := by decide +kernel
theorem dX5_height_58 : decode cX5_height 58 = .ok (.aload_n 0, 1) := by decide +kernel
theorem dX5_height_59 : decode cX5_height 59 = .ok (.getfield 10, 3) := by decide +kernel
theorem dX5_height_62 : decode cX5_height 62 = .ok (.getfield 72, 3) := by decide +kernel
theorem dX5_height_65 : decode cX5_height 65 = .ok (.iload_n 1, 1) := by decide +kernel
theorem dX5_height_66 : decode cX5_height 66 = .ok (.iload_n 2, 1) := by decide +kernel
theorem dX5_height_67 : decode cX5_height 67 = .ok (.iastore, 1) := by decide +kernel
theorem dX5_height_68 : decode cX5_height 68 = .ok (.iload_n 3, 1) := by decide +kernel
theorem dX5_height_69 : decode cX5_height 69 = .ok (.ireturn, 1) := by decide +kernel
theorem dX5_player_0 : decode cX5_player 0 = .ok (.iload_n 1, 1) := by decide +kernel
theorem dX5_player_1 : decode cX5_player 1 = .ok (.invokestatic 52, 3) := by decide +kernel
theorem dX5_player_4 : decode cX5_player 4 = .ok (.ifCond .ne 13, 3) := by decide +kernel
theorem dX5_player_7 : decode cX5_player 7 = .ok (.new 56, 3) := by decide +kernel
theorem dX5_player_10 : decode cX5_player 10 = .ok (.dup, 1) := by decide +kernel
theorem dX5_player_11 : decode cX5_player 11 = .ok (.ldc 58, 2) := by decide +kernel
theorem dX5_player_13 : decode cX5_player 13 = .ok (.invokespecial 60, 3) := by decide +kernel
theorem dX5_player_16 : decode cX5_player 16 = .ok (.athrow, 1) := by decide +kernel
theorem dX5_player_17 : decode cX5_player 17 = .ok (.iload_n 2, 1) := by decide +kernel
theorem dX5_player_18 : decode cX5_player 18 = .ok (.ifCond .lt 10, 3) := by decide +kernel
theorem dX5_player_21 : decode cX5_player 21 = .ok (.iload_n 2, 1) := by decide +kernel
theorem dX5_player_22 : decode cX5_player 22 = .ok (.sipush 200, 3) := by decide +kernel
theorem dX5_player_25 : decode cX5_player 25 = .ok (.if_icmp .le 13, 3) := by decide +kernel
theorem dX5_player_28 : decode cX5_player 28 = .ok (.new 63, 3) := by decide +kernel
theorem dX5_player_31 : decode cX5_player 31 = .ok (.dup, 1) := by decide +kernel
theorem dX5_player_32 : decode cX5_player 32 = .ok (.ldc 76, 2) := by decide +kernel
theorem dX5_player_34 : decode cX5_player 34 = .ok (.invokespecial 67, 3) := by decide +kernel
theorem dX5_player_37 : decode cX5_player 37 = .ok (.athrow, 1) := by decide +kernel
theorem dX5_player_38 : decode cX5_player 38 = .ok (.aload_n 0, 1) := by decide +kernel
theorem dX5_player_39 : decode cX5_player 39 = .ok (.getfield 10, 3) := by decide +kernel
theorem dX5_player_42 : decode cX5_player 42 = .ok (.getfield 78, 3) := by decide +kernel
theorem dX5_player_45 : decode cX5_player 45 = .ok (.iconst 4, 1) := by decide +kernel
theorem dX5_player_46 : decode cX5_player 46 = .ok (.if_icmp .lt 13, 3) := by decide +kernel
theorem dX5_player_49 : decode cX5_player 49 = .ok (.new 82, 3) := by decide +kernel
theorem dX5_player_52 : decode cX5_player 52 = .ok (.dup, 1) := by decide +kernel
theorem dX5_player_53 : decode cX5_player 53 = .ok (.ldc 84, 2) := by decide +kernel
theorem dX5_player_55 : decode cX5_player 55 = .ok (.invokespecial 86, 3) := by decide +kernel
theorem dX5_player_58 : decode cX5_player 58 = .ok (.athrow, 1) := by decide +kernel
theorem dX5_player_59 : decode cX5_player 59 = .ok (.aload_n 0, 1) := by decide +kernel
theorem dX5_player_60 : decode cX5_player 60 = .ok (.getfield 27, 3) := by decide +kernel
theorem dX5_player_63 : decode cX5_player 63 = .ok (.aload_n 0, 1) := by decide +kernel
theorem dX5_player_64 : decode cX5_player 64 = .ok (.getfield 10, 3) := by decide +kernel
theorem dX5_player_67 : decode cX5_player 67 = .ok (.invokevirtual 68, 3) := by decide +kernel
theorem dX5_player_70 : decode cX5_player 70 = .ok (.aload_n 0, 1) := by decide +kernel
theorem dX5_player_71 : decode cX5_player 71 = .ok (.getfield 10, 3) := by decide +kernel
theorem dX5_player_74 : decode cX5_player 74 = .ok (.iload_n 1, 1) := by decide +kernel
theorem dX5_player_75 : decode cX5_player 75 = .ok (.iload_n 2, 1) := by decide +kernel
theorem dX5_player_76 : decode cX5_player 76 = .ok (.invokevirtual 87, 3) := by decide +kernel
theorem dX5_player_79 : decode cX5_player 79 = .ok (.ireturn, 1) := by decide +kernel
theorem dX5_set_0 : decode cX5_set 0 = .ok (.iload_n 1, 1) := by decide +kernel
theorem dX5_set_1 : decode cX5_set 1 = .ok (.invokestatic 91, 3) := by decide +kernel
theorem dX5_set_4 : decode cX5_set 4 = .ok (.ifCond .ne 13, 3) := by decide +kernel
theorem dX5_set_7 : decode cX5_set 7 = .ok (.new 56, 3) := by decide +kernel
theorem dX5_set_10 : decode cX5_set 10 = .ok (.dup, 1) := by decide +kernel
theorem dX5_set_11 : decode cX5_set 11 = .ok (.ldc 94, 2) := by decide +kernel
theorem dX5_set_13 : decode cX5_set 13 = .ok (.invokespecial 60, 3) := by decide +kernel
theorem dX5_set_16 : decode cX5_set 16 = .ok (.athrow, 1) := by decide +kernel
theorem dX5_set_17 : decode cX5_set 17 = .ok (.iload_n 2, 1) := by decide +kernel
theorem dX5_set_18 : decode cX5_set 18 = .ok (.getstatic 96, 3) := by decide +kernel
theorem dX5_set_21 : decode cX5_set 21 = .ok (.iload_n 1, 1) := by decide +kernel
theorem dX5_set_22 : decode cX5_set 22 = .ok (.iaload, 1) := by decide +kernel
theorem dX5_set_23 : decode cX5_set 23 = .ok (.if_icmp .lt 12, 3) := by decide +kernel
theorem dX5_set_26 : decode cX5_set 26 = .ok (.iload_n 2, 1) := by decide +kernel
theorem dX5_set_27 : decode cX5_set 27 = .ok (.getstatic 99, 3) := by decide +kernel
theorem dX5_set_30 : decode cX5_set 30 = .ok (.iload_n 1, 1) := by decide +kernel
theorem dX5_set_31 : decode cX5_set 31 = .ok (.iaload, 1) := by decide +kernel
theorem dX5_set_32 : decode cX5_set 32 = .ok (.if_icmp .le 13, 3) := by decide +kernel
theorem dX5_set_35 : decode cX5_set 35 = .ok (.new 63, 3) := by decide +kernel
theorem dX5_set_38 : decode cX5_set 38 = .ok (.dup, 1) := by decide +kernel
theorem dX5_set_39 : decode cX5_set 39 = .ok (.ldc 102, 2) := by decide +kernel
theorem dX5_set_41 : decode cX5_set 41 = .ok (.invokespecial 67, 3) := by decide +kernel
theorem dX5_set_44 : decode cX5_set 44 = .ok (.athrow, 1) := by decide +kernel
theorem dX5_set_45 : decode cX5_set 45 = .ok (.aload_n 0, 1) := by decide +kernel
theorem dX5_set_46 : decode cX5_set 46 = .ok (.getfield 27, 3) := by decide +kernel
theorem dX5_set_49 : decode cX5_set 49 = .ok (.aload_n 0, 1) := by decide +kernel
theorem dX5_set_50 : decode cX5_set 50 = .ok (.getfield 10, 3) := by decide +kernel
theorem dX5_set_53 : decode cX5_set 53 = .ok (.invokevirtual 68, 3) := by decide +kernel
theorem dX5_set_56 : decode cX5_set 56 = .ok (.aload_n 0, 1) := by decide +kernel
theorem dX5_set_57 : decode cX5_set 57 = .ok (.getfield 10, 3) := by decide +kernel
theorem dX5_set_60 : decode cX5_set 60 = .ok (.getfield 104, 3) := by decide +kernel
theorem dX5_set_63 : decode cX5_set 63 = .ok (.iload_n 1, 1) := by decide +kernel
theorem dX5_set_64 : decode cX5_set 64 = .ok (.iaload, 1) := by decide +kernel
theorem dX5_set_65 : decode cX5_set 65 = .ok (.istore_n 3, 1) := by decide +kernel
theorem dX5_set_66 : decode cX5_set 66 = .ok (.aload_n 0, 1) := by decide +kernel
theorem dX5_set_67 : decode cX5_set 67 = .ok (.getfield 10, 3) := by decide +kernel
theorem dX5_set_70 : decode cX5_set 70 = .ok (.getfield 104, 3) := by decide +kernel
theorem dX5_set_73 : decode cX5_set 73 = .ok (.iload_n 1, 1) := by decide +kernel
theorem dX5_set_74 : decode cX5_set 74 = .ok (.iload_n 2, 1) := by decide +kernel
theorem dX5_set_75 : decode cX5_set 75 = .ok (.iastore, 1) := by decide +kernel
theorem dX5_set_76 : decode cX5_set 76 = .ok (.iload_n 3, 1) := by decide +kernel
theorem dX5_set_77 : decode cX5_set 77 = .ok (.ireturn, 1) := by decide +kernel
theorem dX5_rest_0 : decode cX5_rest 0 = .ok (.aload_n 0, 1) := by decide +kernel
theorem dX5_rest_1 : decode cX5_rest 1 = .ok (.getfield 10, 3) := by decide +kernel
theorem dX5_rest_4 : decode cX5_rest 4 = .ok (.invokevirtual 107, 3) := by decide +kernel
theorem dX5_rest_7 : decode cX5_rest 7 = .ok (.ifCond .ne 13, 3) := by decide +kernel
theorem dX5_rest_10 : decode cX5_rest 10 = .ok (.new 82, 3) := by decide +kernel
theorem dX5_rest_13 : decode cX5_rest 13 = .ok (.dup, 1) := by decide +kernel
theorem dX5_rest_14 : decode cX5_rest 14 = .ok (.ldc 111, 2) := by decide +kernel
theorem dX5_rest_16 : decode cX5_rest 16 = .ok (.invokespecial 86, 3) := by decide +kernel
theorem dX5_rest_19 : decode cX5_rest 19 = .ok (.athrow, 1) := by decide +kernel
theorem dX5_rest_20 : decode cX5_rest 20 = .ok (.aload_n 0, 1) := by decide +kernel
theorem dX5_rest_21 : decode cX5_rest 21 = .ok (.getfield 27, 3) := by decide +kernel
theorem dX5_rest_24 : decode cX5_rest 24 = .ok (.aload_n 0, 1) := by decide +kernel
theorem dX5_rest_25 : decode cX5_rest 25 = .ok (.getfield 10, 3) := by decide +kernel
theorem dX5_rest_28 : decode cX5_rest 28 = .ok (.invokevirtual 68, 3) := by decide +kernel
theorem dX5_rest_31 : decode cX5_rest 31 = .ok (.aload_n 0, 1) := by decide +kernel
theorem dX5_rest_32 : decode cX5_rest 32 = .ok (.getfield 10, 3) := by decide +kernel
theorem dX5_rest_35 : decode cX5_rest 35 = .ok (.invokevirtual 113, 3) := by decide +kernel
theorem dX5_rest_38 : decode cX5_rest 38 = .ok (.ireturn, 1) := by decide +kernel
theorem dX5_stride_0 : decode cX5_stride 0 = .ok (.iload_n 1, 1) := by decide +kernel
theorem dX5_stride_1 : decode cX5_stride 1 = .ok (.invokestatic 52, 3) := by decide +kernel
theorem dX5_stride_4 : decode cX5_stride 4 = .ok (.ifCond .ne 13, 3) := by decide +kernel
theorem dX5_stride_7 : decode cX5_stride 7 = .ok (.new 56, 3) := by decide +kernel
theorem dX5_stride_10 : decode cX5_stride 10 = .ok (.dup, 1) := by decide +kernel
theorem dX5_stride_11 : decode cX5_stride 11 = .ok (.ldc 58, 2) := by decide +kernel
theorem dX5_stride_13 : decode cX5_stride 13 = .ok (.invokespecial 60, 3) := by decide +kernel
theorem dX5_stride_16 : decode cX5_stride 16 = .ok (.athrow, 1) := by decide +kernel
theorem dX5_stride_17 : decode cX5_stride 17 = .ok (.aload_n 0, 1) := by decide +kernel
theorem dX5_stride_18 : decode cX5_stride 18 = .ok (.getfield 10, 3) := by decide +kernel
theorem dX5_stride_21 : decode cX5_stride 21 = .ok (.invokevirtual 107, 3) := by decide +kernel
theorem dX5_stride_24 : decode cX5_stride 24 = .ok (.ifCond .ne 13, 3) := by decide +kernel
theorem dX5_stride_27 : decode cX5_stride 27 = .ok (.new 82, 3) := by decide +kernel
theorem dX5_stride_30 : decode cX5_stride 30 = .ok (.dup, 1) := by decide +kernel
theorem dX5_stride_31 : decode cX5_stride 31 = .ok (.ldc 111, 2) := by decide +kernel
theorem dX5_stride_33 : decode cX5_stride 33 = .ok (.invokespecial 86, 3) := by decide +kernel
theorem dX5_stride_36 : decode cX5_stride 36 = .ok (.athrow, 1) := by decide +kernel
theorem dX5_stride_37 : decode cX5_stride 37 = .ok (.aload_n 0, 1) := by decide +kernel
theorem dX5_stride_38 : decode cX5_stride 38 = .ok (.getfield 27, 3) := by decide +kernel
theorem dX5_stride_41 : decode cX5_stride 41 = .ok (.aload_n 0, 1) := by decide +kernel
theorem dX5_stride_42 : decode cX5_stride 42 = .ok (.getfield 10, 3) := by decide +kernel
theorem dX5_stride_45 : decode cX5_stride 45 = .ok (.invokevirtual 68, 3) := by decide +kernel
theorem dX5_stride_48 : decode cX5_stride 48 = .ok (.aload_n 0, 1) := by decide +kernel
theorem dX5_stride_49 : decode cX5_stride 49 = .ok (.getfield 10, 3) := by decide +kernel
theorem dX5_stride_52 : decode cX5_stride 52 = .ok (.iload_n 1, 1) := by decide +kernel
theorem dX5_stride_53 : decode cX5_stride 53 = .ok (.invokevirtual 117, 3) := by decide +kernel
theorem dX5_stride_56 : decode cX5_stride 56 = .ok (.ireturn, 1) := by decide +kernel
theorem dX5_turnOver_0 : decode cX5_turnOver 0 = .ok (.aload_n 0, 1) := by decide +kernel
theorem dX5_turnOver_1 : decode cX5_turnOver 1 = .ok (.getfield 10, 3) := by decide +kernel
theorem dX5_turnOver_4 : decode cX5_turnOver 4 = .ok (.invokevirtual 107, 3) := by decide +kernel
theorem dX5_turnOver_7 : decode cX5_turnOver 7 = .ok (.ifCond .ne 13, 3) := by decide +kernel
theorem dX5_turnOver_10 : decode cX5_turnOver 10 = .ok (.new 82, 3) := by decide +kernel
theorem dX5_turnOver_13 : decode cX5_turnOver 13 = .ok (.dup, 1) := by decide +kernel
theorem dX5_turnOver_14 : decode cX5_turnOver 14 = .ok (.ldc 111, 2) := by decide +kernel
theorem dX5_turnOver_16 : decode cX5_turnOver 16 = .ok (.invokespecial 86, 3) := by decide +kernel
theorem dX5_turnOver_19 : decode cX5_turnOver 19 = .ok (.athrow, 1) := by decide +kernel
theorem dX5_turnOver_20 : decode cX5_turnOver 20 = .ok (.aload_n 0, 1) := by decide +kernel
theorem dX5_turnOver_21 : decode cX5_turnOver 21 = .ok (.getfield 27, 3) := by decide +kernel
theorem dX5_turnOver_24 : decode cX5_turnOver 24 = .ok (.aload_n 0, 1) := by decide +kernel
theorem dX5_turnOver_25 : decode cX5_turnOver 25 = .ok (.getfield 10, 3) := by decide +kernel
theorem dX5_turnOver_28 : decode cX5_turnOver 28 = .ok (.invokevirtual 68, 3) := by decide +kernel
theorem dX5_turnOver_31 : decode cX5_turnOver 31 = .ok (.aload_n 0, 1) := by decide +kernel
theorem dX5_turnOver_32 : decode cX5_turnOver 32 = .ok (.getfield 10, 3) := by decide +kernel
theorem dX5_turnOver_35 : decode cX5_turnOver 35 = .ok (.invokevirtual 121, 3) := by decide +kernel
theorem dX5_turnOver_38 : decode cX5_turnOver 38 = .ok (.ireturn, 1) := by decide +kernel
theorem dX5_tag_0 : decode cX5_tag 0 = .ok (.aload_n 0, 1) := by decide +kernel
theorem dX5_tag_1 : decode cX5_tag 1 = .ok (.getfield 10, 3) := by decide +kernel
theorem dX5_tag_4 : decode cX5_tag 4 = .ok (.iload_n 1, 1) := by decide +kernel
theorem dX5_tag_5 : decode cX5_tag 5 = .ok (.invokevirtual 124, 3) := by decide +kernel
theorem dX5_tag_8 : decode cX5_tag 8 = .ok (.ifCond .ne 13, 3) := by decide +kernel
theorem dX5_tag_11 : decode cX5_tag 11 = .ok (.new 56, 3) := by decide +kernel
theorem dX5_tag_14 : decode cX5_tag 14 = .ok (.dup, 1) := by decide +kernel
theorem dX5_tag_15 : decode cX5_tag 15 = .ok (.ldc 127, 2) := by decide +kernel
theorem dX5_tag_17 : decode cX5_tag 17 = .ok (.invokespecial 60, 3) := by decide +kernel
theorem dX5_tag_20 : decode cX5_tag 20 = .ok (.athrow, 1) := by decide +kernel
theorem dX5_tag_21 : decode cX5_tag 21 = .ok (.aload_n 0, 1) := by decide +kernel
theorem dX5_tag_22 : decode cX5_tag 22 = .ok (.getfield 10, 3) := by decide +kernel
theorem dX5_tag_25 : decode cX5_tag 25 = .ok (.invokevirtual 107, 3) := by decide +kernel
theorem dX5_tag_28 : decode cX5_tag 28 = .ok (.ifCond .ne 13, 3) := by decide +kernel
theorem dX5_tag_31 : decode cX5_tag 31 = .ok (.new 82, 3) := by decide +kernel
theorem dX5_tag_34 : decode cX5_tag 34 = .ok (.dup, 1) := by decide +kernel
theorem dX5_tag_35 : decode cX5_tag 35 = .ok (.ldc 129, 2) := by decide +kernel
theorem dX5_tag_37 : decode cX5_tag 37 = .ok (.invokespecial 86, 3) := by decide +kernel
theorem dX5_tag_40 : decode cX5_tag 40 = .ok (.athrow, 1) := by decide +kernel
theorem dX5_tag_41 : decode cX5_tag 41 = .ok (.aload_n 0, 1) := by decide +kernel
theorem dX5_tag_42 : decode cX5_tag 42 = .ok (.getfield 27, 3) := by decide +kernel
theorem dX5_tag_45 : decode cX5_tag 45 = .ok (.aload_n 0, 1) := by decide +kernel
theorem dX5_tag_46 : decode cX5_tag 46 = .ok (.getfield 10, 3) := by decide +kernel
theorem dX5_tag_49 : decode cX5_tag 49 = .ok (.invokevirtual 68, 3) := by decide +kernel
theorem dX5_tag_52 : decode cX5_tag 52 = .ok (.aload_n 0, 1) := by decide +kernel
theorem dX5_tag_53 : decode cX5_tag 53 = .ok (.getfield 10, 3) := by decide +kernel
theorem dX5_tag_56 : decode cX5_tag 56 = .ok (.iload_n 1, 1) := by decide +kernel
theorem dX5_tag_57 : decode cX5_tag 57 = .ok (.invokevirtual 131, 3) := by decide +kernel
theorem dX5_tag_60 : decode cX5_tag 60 = .ok (.ireturn, 1) := by decide +kernel
theorem dX5_tower_0 : decode cX5_tower 0 = .ok (.iload_n 1, 1) := by decide +kernel
theorem dX5_tower_1 : decode cX5_tower 1 = .ok (.invokestatic 52, 3) := by decide +kernel
theorem dX5_tower_4 : decode cX5_tower 4 = .ok (.ifCond .ne 13, 3) := by decide +kernel
theorem dX5_tower_7 : decode cX5_tower 7 = .ok (.new 56, 3) := by decide +kernel
theorem dX5_tower_10 : decode cX5_tower 10 = .ok (.dup, 1) := by decide +kernel
theorem dX5_tower_11 : decode cX5_tower 11 = .ok (.ldc 58, 2) := by decide +kernel
theorem dX5_tower_13 : decode cX5_tower 13 = .ok (.invokespecial 60, 3) := by decide +kernel
theorem dX5_tower_16 : decode cX5_tower 16 = .ok (.athrow, 1) := by decide +kernel
theorem dX5_tower_17 : decode cX5_tower 17 = .ok (.iload_n 2, 1) := by decide +kernel
theorem dX5_tower_18 : decode cX5_tower 18 = .ok (.ifCond .lt 8, 3) := by decide +kernel
theorem dX5_tower_21 : decode cX5_tower 21 = .ok (.iload_n 2, 1) := by decide +kernel
theorem dX5_tower_22 : decode cX5_tower 22 = .ok (.iconst 4, 1) := by decide +kernel
theorem dX5_tower_23 : decode cX5_tower 23 = .ok (.if_icmp .lt 13, 3) := by decide +kernel
theorem dX5_tower_26 : decode cX5_tower 26 = .ok (.new 63, 3) := by decide +kernel
theorem dX5_tower_29 : decode cX5_tower 29 = .ok (.dup, 1) := by decide +kernel
theorem dX5_tower_30 : decode cX5_tower 30 = .ok (.ldc 186, 2) := by decide +kernel
theorem dX5_tower_32 : decode cX5_tower 32 = .ok (.invokespecial 67, 3) := by decide +kernel
theorem dX5_tower_35 : decode cX5_tower 35 = .ok (.athrow, 1) := by decide +kernel
theorem dX5_tower_36 : decode cX5_tower 36 = .ok (.aload_n 0, 1) := by decide +kernel
theorem dX5_tower_37 : decode cX5_tower 37 = .ok (.iload_n 1, 1) := by decide +kernel
theorem dX5_tower_38 : decode cX5_tower 38 = .ok (.iload_n 2, 1) := by decide +kernel
theorem dX5_tower_39 : decode cX5_tower 39 = .ok (.invokevirtual 188, 3) := by decide +kernel
theorem dX5_tower_42 : decode cX5_tower 42 = .ok (.ireturn, 1) := by decide +kernel
theorem dX5_playerOf_0 : decode cX5_playerOf 0 = .ok (.aload_n 0, 1) := by decide +kernel
theorem dX5_playerOf_1 : decode cX5_playerOf 1 = .ok (.getfield 10, 3) := by decide +kernel
theorem dX5_playerOf_4 : decode cX5_playerOf 4 = .ok (.iload_n 1, 1) := by decide +kernel
theorem dX5_playerOf_5 : decode cX5_playerOf 5 = .ok (.invokevirtual 124, 3) := by decide +kernel
theorem dX5_playerOf_8 : decode cX5_playerOf 8 = .ok (.ifCond .ne 13, 3) := by decide +kernel
theorem dX5_playerOf_11 : decode cX5_playerOf 11 = .ok (.new 56, 3) := by decide +kernel
theorem dX5_playerOf_14 : decode cX5_playerOf 14 = .ok (.dup, 1) := by decide +kernel
theorem dX5_playerOf_15 : decode cX5_playerOf 15 = .ok (.ldc 127, 2) := by decide +kernel
theorem dX5_playerOf_17 : decode cX5_playerOf 17 = .ok (.invokespecial 60, 3) := by decide +kernel
theorem dX5_playerOf_20 : decode cX5_playerOf 20 = .ok (.athrow, 1) := by decide +kernel
theorem dX5_playerOf_21 : decode cX5_playerOf 21 = .ok (.iload_n 2, 1) := by decide +kernel
theorem dX5_playerOf_22 : decode cX5_playerOf 22 = .ok (.ifCond .lt 9, 3) := by decide +kernel
theorem dX5_playerOf_25 : decode cX5_playerOf 25 = .ok (.iload_n 2, 1) := by decide +kernel
theorem dX5_playerOf_26 : decode cX5_playerOf 26 = .ok (.bipush 9, 2) := by decide +kernel
theorem dX5_playerOf_28 : decode cX5_playerOf 28 = .ok (.if_icmp .lt 13, 3) := by decide +kernel
theorem dX5_playerOf_31 : decode cX5_playerOf 31 = .ok (.new 63, 3) := by decide +kernel
theorem dX5_playerOf_34 : decode cX5_playerOf 34 = .ok (.dup, 1) := by decide +kernel
theorem dX5_playerOf_35 : decode cX5_playerOf 35 = .ok (.ldc 191, 2) := by decide +kernel
theorem dX5_playerOf_37 : decode cX5_playerOf 37 = .ok (.invokespecial 67, 3) := by decide +kernel
theorem dX5_playerOf_40 : decode cX5_playerOf 40 = .ok (.athrow, 1) := by decide +kernel
theorem dX5_playerOf_41 : decode cX5_playerOf 41 = .ok (.aload_n 0, 1) := by decide +kernel
theorem dX5_playerOf_42 : decode cX5_playerOf 42 = .ok (.iload_n 1, 1) := by decide +kernel
theorem dX5_playerOf_43 : decode cX5_playerOf 43 = .ok (.iload_n 2, 1) := by decide +kernel
theorem dX5_playerOf_44 : decode cX5_playerOf 44 = .ok (.invokevirtual 193, 3) := by decide +kernel
theorem dX5_playerOf_47 : decode cX5_playerOf 47 = .ok (.ireturn, 1) := by decide +kernel
theorem dX5_count_0 : decode cX5_count 0 = .ok (.iload_n 1, 1) := by decide +kernel
theorem dX5_count_1 : decode cX5_count 1 = .ok (.ifCond .lt 9, 3) := by decide +kernel
theorem dX5_count_4 : decode cX5_count 4 = .ok (.iload_n 1, 1) := by decide +kernel
theorem dX5_count_5 : decode cX5_count 5 = .ok (.bipush 11, 2) := by decide +kernel
theorem dX5_count_7 : decode cX5_count 7 = .ok (.if_icmp .lt 13, 3) := by decide +kernel
theorem dX5_count_10 : decode cX5_count 10 = .ok (.new 63, 3) := by decide +kernel
theorem dX5_count_13 : decode cX5_count 13 = .ok (.dup, 1) := by decide +kernel
theorem dX5_count_14 : decode cX5_count 14 = .ok (.ldc 196, 2) := by decide +kernel
theorem dX5_count_16 : decode cX5_count 16 = .ok (.invokespecial 67, 3) := by decide +kernel
theorem dX5_count_19 : decode cX5_count 19 = .ok (.athrow, 1) := by decide +kernel
theorem dX5_count_20 : decode cX5_count 20 = .ok (.aload_n 0, 1) := by decide +kernel
theorem dX5_count_21 : decode cX5_count 21 = .ok (.iload_n 1, 1) := by decide +kernel
theorem dX5_count_22 : decode cX5_count 22 = .ok (.invokevirtual 198, 3) := by decide +kernel
theorem dX5_count_25 : decode cX5_count 25 = .ok (.ireturn, 1) := by decide +kernel
theorem dX5_setting_0 : decode cX5_setting 0 = .ok (.iload_n 1, 1) := by decide +kernel
theorem dX5_setting_1 : decode cX5_setting 1 = .ok (.invokestatic 91, 3) := by decide +kernel
theorem dX5_setting_4 : decode cX5_setting 4 = .ok (.ifCond .ne 13, 3) := by decide +kernel
theorem dX5_setting_7 : decode cX5_setting 7 = .ok (.new 56, 3) := by decide +kernel
theorem dX5_setting_10 : decode cX5_setting 10 = .ok (.dup, 1) := by decide +kernel
theorem dX5_setting_11 : decode cX5_setting 11 = .ok (.ldc 94, 2) := by decide +kernel
theorem dX5_setting_13 : decode cX5_setting 13 = .ok (.invokespecial 60, 3) := by decide +kernel
theorem dX5_setting_16 : decode cX5_setting 16 = .ok (.athrow, 1) := by decide +kernel
theorem dX5_setting_17 : decode cX5_setting 17 = .ok (.aload_n 0, 1) := by decide +kernel
theorem dX5_setting_18 : decode cX5_setting 18 = .ok (.getfield 10, 3) := by decide +kernel
theorem dX5_setting_21 : decode cX5_setting 21 = .ok (.getfield 104, 3) := by decide +kernel
theorem dX5_setting_24 : decode cX5_setting 24 = .ok (.iload_n 1, 1) := by decide +kernel
theorem dX5_setting_25 : decode cX5_setting 25 = .ok (.iaload, 1) := by decide +kernel
theorem dX5_setting_26 : decode cX5_setting 26 = .ok (.ireturn, 1) := by decide +kernel
theorem dX5_whyNot_0 : decode cX5_whyNot 0 = .ok (.aload_n 0, 1) := by decide +kernel
theorem dX5_whyNot_1 : decode cX5_whyNot 1 = .ok (.getfield 10, 3) := by decide +kernel
theorem dX5_whyNot_4 : decode cX5_whyNot 4 = .ok (.iload_n 1, 1) := by decide +kernel
theorem dX5_whyNot_5 : decode cX5_whyNot 5 = .ok (.invokevirtual 124, 3) := by decide +kernel
theorem dX5_whyNot_8 : decode cX5_whyNot 8 = .ok (.ifCond .eq 10, 3) := by decide +kernel
theorem dX5_whyNot_11 : decode cX5_whyNot 11 = .ok (.iload_n 2, 1) := by decide +kernel
theorem dX5_whyNot_12 : decode cX5_whyNot 12 = .ok (.invokestatic 52, 3) := by decide +kernel
theorem dX5_whyNot_15 : decode cX5_whyNot 15 = .ok (.ifCond .ne 13, 3) := by decide +kernel
theorem dX5_whyNot_18 : decode cX5_whyNot 18 = .ok (.new 56, 3) := by decide +kernel
theorem dX5_whyNot_21 : decode cX5_whyNot 21 = .ok (.dup, 1) := by decide +kernel
theorem dX5_whyNot_22 : decode cX5_whyNot 22 = .ok (.ldc 212, 2) := by decide +kernel
theorem dX5_whyNot_24 : decode cX5_whyNot 24 = .ok (.invokespecial 60, 3) := by decide +kernel
theorem dX5_whyNot_27 : decode cX5_whyNot 27 = .ok (.athrow, 1) := by decide +kernel
theorem dX5_whyNot_28 : decode cX5_whyNot 28 = .ok (.aload_n 0, 1) := by decide +kernel
theorem dX5_whyNot_29 : decode cX5_whyNot 29 = .ok (.getfield 10, 3) := by decide +kernel
theorem dX5_whyNot_32 : decode cX5_whyNot 32 = .ok (.iload_n 1, 1) := by decide +kernel
theorem dX5_whyNot_33 : decode cX5_whyNot 33 = .ok (.iload_n 2, 1) := by decide +kernel
theorem dX5_whyNot_34 : decode cX5_whyNot 34 = .ok (.invokevirtual 214, 3) := by decide +kernel
theorem dX5_whyNot_37 : decode cX5_whyNot 37 = .ok (.ireturn, 1) := by decide +kernel
theorem dX5_prey_0 : decode cX5_prey 0 = .ok (.aload_n 0, 1) := by decide +kernel
theorem dX5_prey_1 : decode cX5_prey 1 = .ok (.getfield 10, 3) := by decide +kernel
theorem dX5_prey_4 : decode cX5_prey 4 = .ok (.invokevirtual 221, 3) := by decide +kernel
theorem dX5_prey_7 : decode cX5_prey 7 = .ok (.ireturn, 1) := by decide +kernel
theorem dX5_lookout_0 : decode cX5_lookout 0 = .ok (.aload_n 0, 1) := by decide +kernel
theorem dX5_lookout_1 : decode cX5_lookout 1 = .ok (.getfield 10, 3) := by decide +kernel
theorem dX5_lookout_4 : decode cX5_lookout 4 = .ok (.invokevirtual 224, 3) := by decide +kernel
theorem dX5_lookout_7 : decode cX5_lookout 7 = .ok (.ireturn, 1) := by decide +kernel
theorem dX5_isTower_0 : decode cX5_isTower 0 = .ok (.iload_n 0, 1) := by decide +kernel
theorem dX5_isTower_1 : decode cX5_isTower 1 = .ok (.ifCond .lt 13, 3) := by decide +kernel
theorem dX5_isTower_4 : decode cX5_isTower 4 = .ok (.iload_n 0, 1) := by decide +kernel
theorem dX5_isTower_5 : decode cX5_isTower 5 = .ok (.bipush 10, 2) := by decide +kernel
theorem dX5_isTower_7 : decode cX5_isTower 7 = .ok (.if_icmp .ge 7, 3) := by decide +kernel
theorem dX5_isTower_10 : decode cX5_isTower 10 = .ok (.iconst 1, 1) := by decide +kernel
theorem dX5_isTower_11 : decode cX5_isTower 11 = .ok (.goto 4, 3) := by decide +kernel
theorem dX5_isTower_14 : decode cX5_isTower 14 = .ok (.iconst 0, 1) := by decide +kernel
theorem dX5_isTower_15 : decode cX5_isTower 15 = .ok (.ireturn, 1) := by decide +kernel
theorem dX5_isSetting_0 : decode cX5_isSetting 0 = .ok (.iload_n 0, 1) := by decide +kernel
theorem dX5_isSetting_1 : decode cX5_isSetting 1 = .ok (.ifCond .lt 12, 3) := by decide +kernel
theorem dX5_isSetting_4 : decode cX5_isSetting 4 = .ok (.iload_n 0, 1) := by decide +kernel
theorem dX5_isSetting_5 : decode cX5_isSetting 5 = .ok (.iconst 4, 1) := by decide +kernel
theorem dX5_isSetting_6 : decode cX5_isSetting 6 = .ok (.if_icmp .ge 7, 3) := by decide +kernel
theorem dX5_isSetting_9 : decode cX5_isSetting 9 = .ok (.iconst 1, 1) := by decide +kernel
theorem dX5_isSetting_10 : decode cX5_isSetting 10 = .ok (.goto 4, 3) := by decide +kernel
theorem dX5_isSetting_13 : decode cX5_isSetting 13 = .ok (.iconst 0, 1) := by decide +kernel
theorem dX5_isSetting_14 : decode cX5_isSetting 14 = .ok (.ireturn, 1) := by decide +kernel
theorem dX5_towerProperty_0 : decode cX5_towerProperty 0 = .ok (.iload_n 2, 1) := by decide +kernel
theorem dX5_towerProperty_1 : decode cX5_towerProperty 1 = .ok (.tableswitch 56 0 2 #[27, 37, 47], 27) := by decide +kernel
theorem dX5_towerProperty_28 : decode cX5_towerProperty 28 = .ok (.aload_n 0, 1) := by decide +kernel
theorem dX5_towerProperty_29 : decode cX5_towerProperty 29 = .ok (.getfield 10, 3) := by decide +kernel
theorem dX5_towerProperty_32 : decode cX5_towerProperty 32 = .ok (.getfield 72, 3) := by decide +kernel
