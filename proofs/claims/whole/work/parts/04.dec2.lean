theorem dX6_take_0 : decode cX6_take 0 = .ok (.aload_n 0, 1) := by decide +kernel
theorem dX6_take_1 : decode cX6_take 1 = .ok (.aload_n 0, 1) := by decide +kernel
theorem dX6_take_2 : decode cX6_take 2 = .ok (.iload_n 1, 1) := by decide +kernel
theorem dX6_take_3 : decode cX6_take 3 = .ok (.iconst 0, 1) := by decide +kernel
theorem dX6_take_4 : decode cX6_take 4 = .ok (.invokevirtual 63, 3) := by decide +kernel
theorem dX6_take_7 : decode cX6_take 7 = .ok (.putfield 67, 3) := by decide +kernel
theorem dX6_take_10 : decode cX6_take 10 = .ok (.aload_n 0, 1) := by decide +kernel
theorem dX6_take_11 : decode cX6_take 11 = .ok (.aload_n 0, 1) := by decide +kernel
theorem dX6_take_12 : decode cX6_take 12 = .ok (.iload_n 1, 1) := by decide +kernel
theorem dX6_take_13 : decode cX6_take 13 = .ok (.iconst 1, 1) := by decide +kernel
theorem dX6_take_14 : decode cX6_take 14 = .ok (.invokevirtual 63, 3) := by decide +kernel
theorem dX6_take_17 : decode cX6_take 17 = .ok (.putfield 70, 3) := by decide +kernel
theorem dX6_take_20 : decode cX6_take 20 = .ok (.aload_n 0, 1) := by decide +kernel
theorem dX6_take_21 : decode cX6_take 21 = .ok (.aload_n 0, 1) := by decide +kernel
theorem dX6_take_22 : decode cX6_take 22 = .ok (.iload_n 1, 1) := by decide +kernel
theorem dX6_take_23 : decode cX6_take 23 = .ok (.iconst 2, 1) := by decide +kernel
theorem dX6_take_24 : decode cX6_take 24 = .ok (.invokevirtual 63, 3) := by decide +kernel
theorem dX6_take_27 : decode cX6_take 27 = .ok (.putfield 73, 3) := by decide +kernel
theorem dX6_take_30 : decode cX6_take 30 = .ok (.iconst 0, 1) := by decide +kernel
theorem dX6_take_31 : decode cX6_take 31 = .ok (.istore_n 2, 1) := by decide +kernel
theorem dX6_take_32 : decode cX6_take 32 = .ok (.iload_n 2, 1) := by decide +kernel
theorem dX6_take_33 : decode cX6_take 33 = .ok (.bipush 10, 2) := by decide +kernel
theorem dX6_take_35 : decode cX6_take 35 = .ok (.if_icmp .ge 24, 3) := by decide +kernel
theorem dX6_take_38 : decode cX6_take 38 = .ok (.aload_n 0, 1) := by decide +kernel
theorem dX6_take_39 : decode cX6_take 39 = .ok (.getfield 29, 3) := by decide +kernel
theorem dX6_take_42 : decode cX6_take 42 = .ok (.iload_n 2, 1) := by decide +kernel
theorem dX6_take_43 : decode cX6_take 43 = .ok (.aload_n 0, 1) := by decide +kernel
theorem dX6_take_44 : decode cX6_take 44 = .ok (.getfield 7, 3) := by decide +kernel
theorem dX6_take_47 : decode cX6_take 47 = .ok (.bipush 21, 2) := by decide +kernel
theorem dX6_take_49 : decode cX6_take 49 = .ok (.iload_n 2, 1) := by decide +kernel
theorem dX6_take_50 : decode cX6_take 50 = .ok (.iadd, 1) := by decide +kernel
theorem dX6_take_51 : decode cX6_take 51 = .ok (.iaload, 1) := by decide +kernel
theorem dX6_take_52 : decode cX6_take 52 = .ok (.iastore, 1) := by decide +kernel
theorem dX6_take_53 : decode cX6_take 53 = .ok (.iinc 2 1, 3) := by decide +kernel
theorem dX6_take_56 : decode cX6_take 56 = .ok (.goto (-24), 3) := by decide +kernel
theorem dX6_take_59 : decode cX6_take 59 = .ok (.return_, 1) := by decide +kernel
theorem dX6_strideReason_0 : decode cX6_strideReason 0 = .ok (.aload_n 0, 1) := by decide +kernel
theorem dX6_strideReason_1 : decode cX6_strideReason 1 = .ok (.getfield 67, 3) := by decide +kernel
theorem dX6_strideReason_4 : decode cX6_strideReason 4 = .ok (.iload_n 1, 1) := by decide +kernel
theorem dX6_strideReason_5 : decode cX6_strideReason 5 = .ok (.if_icmp .ne 7, 3) := by decide +kernel
theorem dX6_strideReason_8 : decode cX6_strideReason 8 = .ok (.iconst 1, 1) := by decide +kernel
theorem dX6_strideReason_9 : decode cX6_strideReason 9 = .ok (.goto 40, 3) := by decide +kernel
theorem dX6_strideReason_12 : decode cX6_strideReason 12 = .ok (.aload_n 0, 1) := by decide +kernel
theorem dX6_strideReason_13 : decode cX6_strideReason 13 = .ok (.aload_n 0, 1) := by decide +kernel
theorem dX6_strideReason_14 : decode cX6_strideReason 14 = .ok (.getfield 67, 3) := by decide +kernel
theorem dX6_strideReason_17 : decode cX6_strideReason 17 = .ok (.iload_n 1, 1) := by decide +kernel
theorem dX6_strideReason_18 : decode cX6_strideReason 18 = .ok (.invokevirtual 59, 3) := by decide +kernel
theorem dX6_strideReason_21 : decode cX6_strideReason 21 = .ok (.ifCond .ne 7, 3) := by decide +kernel
theorem dX6_strideReason_24 : decode cX6_strideReason 24 = .ok (.iconst 2, 1) := by decide +kernel
theorem dX6_strideReason_25 : decode cX6_strideReason 25 = .ok (.goto 24, 3) := by decide +kernel
theorem dX6_strideReason_28 : decode cX6_strideReason 28 = .ok (.aload_n 0, 1) := by decide +kernel
theorem dX6_strideReason_29 : decode cX6_strideReason 29 = .ok (.aload_n 0, 1) := by decide +kernel
theorem dX6_strideReason_30 : decode cX6_strideReason 30 = .ok (.getfield 67, 3) := by decide +kernel
theorem dX6_strideReason_33 : decode cX6_strideReason 33 = .ok (.iload_n 1, 1) := by decide +kernel
theorem dX6_strideReason_34 : decode cX6_strideReason 34 = .ok (.invokevirtual 76, 3) := by decide +kernel
theorem dX6_strideReason_37 : decode cX6_strideReason 37 = .ok (.aload_n 0, 1) := by decide +kernel
theorem dX6_strideReason_38 : decode cX6_strideReason 38 = .ok (.getfield 73, 3) := by decide +kernel
theorem dX6_strideReason_41 : decode cX6_strideReason 41 = .ok (.if_icmp .le 7, 3) := by decide +kernel
theorem dX6_strideReason_44 : decode cX6_strideReason 44 = .ok (.iconst 3, 1) := by decide +kernel
theorem dX6_strideReason_45 : decode cX6_strideReason 45 = .ok (.goto 4, 3) := by decide +kernel
theorem dX6_strideReason_48 : decode cX6_strideReason 48 = .ok (.iconst 0, 1) := by decide +kernel
theorem dX6_strideReason_49 : decode cX6_strideReason 49 = .ok (.ireturn, 1) := by decide +kernel
theorem dX6_strides_0 : decode cX6_strides 0 = .ok (.aload_n 0, 1) := by decide +kernel
theorem dX6_strides_1 : decode cX6_strides 1 = .ok (.aload_n 0, 1) := by decide +kernel
theorem dX6_strides_2 : decode cX6_strides 2 = .ok (.getfield 67, 3) := by decide +kernel
theorem dX6_strides_5 : decode cX6_strides 5 = .ok (.iload_n 1, 1) := by decide +kernel
theorem dX6_strides_6 : decode cX6_strides 6 = .ok (.invokevirtual 76, 3) := by decide +kernel
theorem dX6_strides_9 : decode cX6_strides 9 = .ok (.istore_n 2, 1) := by decide +kernel
theorem dX6_strides_10 : decode cX6_strides 10 = .ok (.aload_n 0, 1) := by decide +kernel
theorem dX6_strides_11 : decode cX6_strides 11 = .ok (.dup, 1) := by decide +kernel
theorem dX6_strides_12 : decode cX6_strides 12 = .ok (.getfield 73, 3) := by decide +kernel
theorem dX6_strides_15 : decode cX6_strides 15 = .ok (.iload_n 2, 1) := by decide +kernel
theorem dX6_strides_16 : decode cX6_strides 16 = .ok (.isub, 1) := by decide +kernel
theorem dX6_strides_17 : decode cX6_strides 17 = .ok (.putfield 73, 3) := by decide +kernel
theorem dX6_strides_20 : decode cX6_strides 20 = .ok (.aload_n 0, 1) := by decide +kernel
theorem dX6_strides_21 : decode cX6_strides 21 = .ok (.getfield 29, 3) := by decide +kernel
theorem dX6_strides_24 : decode cX6_strides 24 = .ok (.aload_n 0, 1) := by decide +kernel
theorem dX6_strides_25 : decode cX6_strides 25 = .ok (.getfield 67, 3) := by decide +kernel
theorem dX6_strides_28 : decode cX6_strides 28 = .ok (.dup2, 1) := by decide +kernel
theorem dX6_strides_29 : decode cX6_strides 29 = .ok (.iaload, 1) := by decide +kernel
theorem dX6_strides_30 : decode cX6_strides 30 = .ok (.iload_n 2, 1) := by decide +kernel
theorem dX6_strides_31 : decode cX6_strides 31 = .ok (.iadd, 1) := by decide +kernel
theorem dX6_strides_32 : decode cX6_strides 32 = .ok (.iastore, 1) := by decide +kernel
theorem dX6_strides_33 : decode cX6_strides 33 = .ok (.aload_n 0, 1) := by decide +kernel
theorem dX6_strides_34 : decode cX6_strides 34 = .ok (.iload_n 1, 1) := by decide +kernel
theorem dX6_strides_35 : decode cX6_strides 35 = .ok (.putfield 67, 3) := by decide +kernel
theorem dX6_strides_38 : decode cX6_strides 38 = .ok (.aload_n 0, 1) := by decide +kernel
theorem dX6_strides_39 : decode cX6_strides 39 = .ok (.dup, 1) := by decide +kernel
theorem dX6_strides_40 : decode cX6_strides 40 = .ok (.getfield 70, 3) := by decide +kernel
theorem dX6_strides_43 : decode cX6_strides 43 = .ok (.aload_n 0, 1) := by decide +kernel
theorem dX6_strides_44 : decode cX6_strides 44 = .ok (.getfield 29, 3) := by decide +kernel
theorem dX6_strides_47 : decode cX6_strides 47 = .ok (.iload_n 1, 1) := by decide +kernel
theorem dX6_strides_48 : decode cX6_strides 48 = .ok (.iaload, 1) := by decide +kernel
theorem dX6_strides_49 : decode cX6_strides 49 = .ok (.iadd, 1) := by decide +kernel
theorem dX6_strides_50 : decode cX6_strides 50 = .ok (.putfield 70, 3) := by decide +kernel
theorem dX6_strides_53 : decode cX6_strides 53 = .ok (.aload_n 0, 1) := by decide +kernel
theorem dX6_strides_54 : decode cX6_strides 54 = .ok (.getfield 29, 3) := by decide +kernel
theorem dX6_strides_57 : decode cX6_strides 57 = .ok (.iload_n 1, 1) := by decide +kernel
theorem dX6_strides_58 : decode cX6_strides 58 = .ok (.iconst 0, 1) := by decide +kernel
theorem dX6_strides_59 : decode cX6_strides 59 = .ok (.iastore, 1) := by decide +kernel
theorem dX6_strides_60 : decode cX6_strides 60 = .ok (.return_, 1) := by decide +kernel
theorem dX6_turns_0 : decode cX6_turns 0 = .ok (.aload_n 0, 1) := by decide +kernel
theorem dX6_turns_1 : decode cX6_turns 1 = .ok (.dup, 1) := by decide +kernel
theorem dX6_turns_2 : decode cX6_turns 2 = .ok (.getfield 73, 3) := by decide +kernel
theorem dX6_turns_5 : decode cX6_turns 5 = .ok (.aload_n 0, 1) := by decide +kernel
theorem dX6_turns_6 : decode cX6_turns 6 = .ok (.getfield 7, 3) := by decide +kernel
theorem dX6_turns_9 : decode cX6_turns 9 = .ok (.iconst 2, 1) := by decide +kernel
theorem dX6_turns_10 : decode cX6_turns 10 = .ok (.iaload, 1) := by decide +kernel
theorem dX6_turns_11 : decode cX6_turns 11 = .ok (.isub, 1) := by decide +kernel
theorem dX6_turns_12 : decode cX6_turns 12 = .ok (.putfield 73, 3) := by decide +kernel
theorem dX6_turns_15 : decode cX6_turns 15 = .ok (.aload_n 0, 1) := by decide +kernel
theorem dX6_turns_16 : decode cX6_turns 16 = .ok (.getfield 29, 3) := by decide +kernel
theorem dX6_turns_19 : decode cX6_turns 19 = .ok (.aload_n 0, 1) := by decide +kernel
theorem dX6_turns_20 : decode cX6_turns 20 = .ok (.getfield 67, 3) := by decide +kernel
theorem dX6_turns_23 : decode cX6_turns 23 = .ok (.dup2, 1) := by decide +kernel
theorem dX6_turns_24 : decode cX6_turns 24 = .ok (.iaload, 1) := by decide +kernel
theorem dX6_turns_25 : decode cX6_turns 25 = .ok (.aload_n 0, 1) := by decide +kernel
theorem dX6_turns_26 : decode cX6_turns 26 = .ok (.getfield 7, 3) := by decide +kernel
theorem dX6_turns_29 : decode cX6_turns 29 = .ok (.iconst 2, 1) := by decide +kernel
theorem dX6_turns_30 : decode cX6_turns 30 = .ok (.iaload, 1) := by decide +kernel
theorem dX6_turns_31 : decode cX6_turns 31 = .ok (.iadd, 1) := by decide +kernel
theorem dX6_turns_32 : decode cX6_turns 32 = .ok (.iastore, 1) := by decide +kernel
theorem dX6_turns_33 : decode cX6_turns 33 = .ok (.aload_n 0, 1) := by decide +kernel
theorem dX6_turns_34 : decode cX6_turns 34 = .ok (.getfield 70, 3) := by decide +kernel
theorem dX6_turns_37 : decode cX6_turns 37 = .ok (.istore_n 1, 1) := by decide +kernel
theorem dX6_turns_38 : decode cX6_turns 38 = .ok (.aload_n 0, 1) := by decide +kernel
theorem dX6_turns_39 : decode cX6_turns 39 = .ok (.aload_n 0, 1) := by decide +kernel
theorem dX6_turns_40 : decode cX6_turns 40 = .ok (.getfield 73, 3) := by decide +kernel
theorem dX6_turns_43 : decode cX6_turns 43 = .ok (.putfield 70, 3) := by decide +kernel
theorem dX6_turns_46 : decode cX6_turns 46 = .ok (.aload_n 0, 1) := by decide +kernel
theorem dX6_turns_47 : decode cX6_turns 47 = .ok (.iload_n 1, 1) := by decide +kernel
theorem dX6_turns_48 : decode cX6_turns 48 = .ok (.putfield 73, 3) := by decide +kernel
theorem dX6_turns_51 : decode cX6_turns 51 = .ok (.return_, 1) := by decide +kernel
theorem dX6_runs_0 : decode cX6_runs 0 = .ok (.aload_n 0, 1) := by decide +kernel
theorem dX6_runs_1 : decode cX6_runs 1 = .ok (.getfield 7, 3) := by decide +kernel
theorem dX6_runs_4 : decode cX6_runs 4 = .ok (.iconst 0, 1) := by decide +kernel
theorem dX6_runs_5 : decode cX6_runs 5 = .ok (.iaload, 1) := by decide +kernel
theorem dX6_runs_6 : decode cX6_runs 6 = .ok (.aload_n 0, 1) := by decide +kernel
theorem dX6_runs_7 : decode cX6_runs 7 = .ok (.getfield 70, 3) := by decide +kernel
theorem dX6_runs_10 : decode cX6_runs 10 = .ok (.if_icmp .ge 12, 3) := by decide +kernel
theorem dX6_runs_13 : decode cX6_runs 13 = .ok (.aload_n 0, 1) := by decide +kernel
theorem dX6_runs_14 : decode cX6_runs 14 = .ok (.getfield 7, 3) := by decide +kernel
theorem dX6_runs_17 : decode cX6_runs 17 = .ok (.iconst 0, 1) := by decide +kernel
theorem dX6_runs_18 : decode cX6_runs 18 = .ok (.iaload, 1) := by decide +kernel
theorem dX6_runs_19 : decode cX6_runs 19 = .ok (.goto 7, 3) := by decide +kernel
theorem dX6_runs_22 : decode cX6_runs 22 = .ok (.aload_n 0, 1) := by decide +kernel
theorem dX6_runs_23 : decode cX6_runs 23 = .ok (.getfield 70, 3) := by decide +kernel
theorem dX6_runs_26 : decode cX6_runs 26 = .ok (.istore_n 1, 1) := by decide +kernel
theorem dX6_runs_27 : decode cX6_runs 27 = .ok (.aload_n 0, 1) := by decide +kernel
theorem dX6_runs_28 : decode cX6_runs 28 = .ok (.dup, 1) := by decide +kernel
theorem dX6_runs_29 : decode cX6_runs 29 = .ok (.getfield 70, 3) := by decide +kernel
theorem dX6_runs_32 : decode cX6_runs 32 = .ok (.iload_n 1, 1) := by decide +kernel
theorem dX6_runs_33 : decode cX6_runs 33 = .ok (.isub, 1) := by decide +kernel
theorem dX6_runs_34 : decode cX6_runs 34 = .ok (.putfield 70, 3) := by decide +kernel
theorem dX6_runs_37 : decode cX6_runs 37 = .ok (.aload_n 0, 1) := by decide +kernel
theorem dX6_runs_38 : decode cX6_runs 38 = .ok (.dup, 1) := by decide +kernel
theorem dX6_runs_39 : decode cX6_runs 39 = .ok (.getfield 73, 3) := by decide +kernel
theorem dX6_runs_42 : decode cX6_runs 42 = .ok (.iload_n 1, 1) := by decide +kernel
theorem dX6_runs_43 : decode cX6_runs 43 = .ok (.iadd, 1) := by decide +kernel
theorem dX6_runs_44 : decode cX6_runs 44 = .ok (.putfield 73, 3) := by decide +kernel
theorem dX6_runs_47 : decode cX6_runs 47 = .ok (.iload_n 1, 1) := by decide +kernel
theorem dX6_runs_48 : decode cX6_runs 48 = .ok (.ireturn, 1) := by decide +kernel
theorem dX6_put_0 : decode cX6_put 0 = .ok (.aload_n 0, 1) := by decide +kernel
theorem dX6_put_1 : decode cX6_put 1 = .ok (.getfield 7, 3) := by decide +kernel
theorem dX6_put_4 : decode cX6_put 4 = .ok (.bipush 31, 2) := by decide +kernel
theorem dX6_put_6 : decode cX6_put 6 = .ok (.bipush 7, 2) := by decide +kernel
theorem dX6_put_8 : decode cX6_put 8 = .ok (.iload_n 1, 1) := by decide +kernel
theorem dX6_put_9 : decode cX6_put 9 = .ok (.imul, 1) := by decide +kernel
theorem dX6_put_10 : decode cX6_put 10 = .ok (.iadd, 1) := by decide +kernel
theorem dX6_put_11 : decode cX6_put 11 = .ok (.iconst 0, 1) := by decide +kernel
theorem dX6_put_12 : decode cX6_put 12 = .ok (.iadd, 1) := by decide +kernel
theorem dX6_put_13 : decode cX6_put 13 = .ok (.aload_n 0, 1) := by decide +kernel
theorem dX6_put_14 : decode cX6_put 14 = .ok (.getfield 67, 3) := by decide +kernel
theorem dX6_put_17 : decode cX6_put 17 = .ok (.iastore, 1) := by decide +kernel
theorem dX6_put_18 : decode cX6_put 18 = .ok (.aload_n 0, 1) := by decide +kernel
theorem dX6_put_19 : decode cX6_put 19 = .ok (.getfield 7, 3) := by decide +kernel
theorem dX6_put_22 : decode cX6_put 22 = .ok (.bipush 31, 2) := by decide +kernel
theorem dX6_put_24 : decode cX6_put 24 = .ok (.bipush 7, 2) := by decide +kernel
theorem dX6_put_26 : decode cX6_put 26 = .ok (.iload_n 1, 1) := by decide +kernel
theorem dX6_put_27 : decode cX6_put 27 = .ok (.imul, 1) := by decide +kernel
theorem dX6_put_28 : decode cX6_put 28 = .ok (.iadd, 1) := by decide +kernel
theorem dX6_put_29 : decode cX6_put 29 = .ok (.iconst 1, 1) := by decide +kernel
theorem dX6_put_30 : decode cX6_put 30 = .ok (.iadd, 1) := by decide +kernel
theorem dX6_put_31 : decode cX6_put 31 = .ok (.aload_n 0, 1) := by decide +kernel
theorem dX6_put_32 : decode cX6_put 32 = .ok (.getfield 70, 3) := by decide +kernel
theorem dX6_put_35 : decode cX6_put 35 = .ok (.iastore, 1) := by decide +kernel
theorem dX6_put_36 : decode cX6_put 36 = .ok (.aload_n 0, 1) := by decide +kernel
theorem dX6_put_37 : decode cX6_put 37 = .ok (.getfield 7, 3) := by decide +kernel
theorem dX6_put_40 : decode cX6_put 40 = .ok (.bipush 31, 2) := by decide +kernel
theorem dX6_put_42 : decode cX6_put 42 = .ok (.bipush 7, 2) := by decide +kernel
theorem dX6_put_44 : decode cX6_put 44 = .ok (.iload_n 1, 1) := by decide +kernel
theorem dX6_put_45 : decode cX6_put 45 = .ok (.imul, 1) := by decide +kernel
theorem dX6_put_46 : decode cX6_put 46 = .ok (.iadd, 1) := by decide +kernel
theorem dX6_put_47 : decode cX6_put 47 = .ok (.iconst 2, 1) := by decide +kernel
theorem dX6_put_48 : decode cX6_put 48 = .ok (.iadd, 1) := by decide +kernel
theorem dX6_put_49 : decode cX6_put 49 = .ok (.aload_n 0, 1) := by decide +kernel
theorem dX6_put_50 : decode cX6_put 50 = .ok (.getfield 73, 3) := by decide +kernel
theorem dX6_put_53 : decode cX6_put 53 = .ok (.iastore, 1) := by decide +kernel
theorem dX6_put_54 : decode cX6_put 54 = .ok (.iconst 0, 1) := by decide +kernel
theorem dX6_put_55 : decode cX6_put 55 = .ok (.istore_n 2, 1) := by decide +kernel
theorem dX6_put_56 : decode cX6_put 56 = .ok (.iload_n 2, 1) := by decide +kernel
theorem dX6_put_57 : decode cX6_put 57 = .ok (.bipush 10, 2) := by decide +kernel
theorem dX6_put_59 : decode cX6_put 59 = .ok (.if_icmp .ge 24, 3) := by decide +kernel
theorem dX6_put_62 : decode cX6_put 62 = .ok (.aload_n 0, 1) := by decide +kernel
theorem dX6_put_63 : decode cX6_put 63 = .ok (.getfield 7, 3) := by decide +kernel
theorem dX6_put_66 : decode cX6_put 66 = .ok (.bipush 21, 2) := by decide +kernel
theorem dX6_put_68 : decode cX6_put 68 = .ok (.iload_n 2, 1) := by decide +kernel
theorem dX6_put_69 : decode cX6_put 69 = .ok (.iadd, 1) := by decide +kernel
theorem dX6_put_70 : decode cX6_put 70 = .ok (.aload_n 0, 1) := by decide +kernel
theorem dX6_put_71 : decode cX6_put 71 = .ok (.getfield 29, 3) := by decide +kernel
theorem dX6_put_74 : decode cX6_put 74 = .ok (.iload_n 2, 1) := by decide +kernel
theorem dX6_put_75 : decode cX6_put 75 = .ok (.iaload, 1) := by decide +kernel
theorem dX6_put_76 : decode cX6_put 76 = .ok (.iastore, 1) := by decide +kernel
theorem dX6_put_77 : decode cX6_put 77 = .ok (.iinc 2 1, 3) := by decide +kernel
theorem dX6_put_80 : decode cX6_put 80 = .ok (.goto (-24), 3) := by decide +kernel
theorem dX6_put_83 : decode cX6_put 83 = .ok (.return_, 1) := by decide +kernel
theorem dX6_ends_0 : decode cX6_ends 0 = .ok (.aload_n 0, 1) := by decide +kernel
theorem dX6_ends_1 : decode cX6_ends 1 = .ok (.getfield 7, 3) := by decide +kernel
theorem dX6_ends_4 : decode cX6_ends 4 = .ok (.iconst 5, 1) := by decide +kernel
theorem dX6_ends_5 : decode cX6_ends 5 = .ok (.iaload, 1) := by decide +kernel
theorem dX6_ends_6 : decode cX6_ends 6 = .ok (.istore_n 1, 1) := by decide +kernel
theorem dX6_ends_7 : decode cX6_ends 7 = .ok (.aload_n 0, 1) := by decide +kernel
theorem dX6_ends_8 : decode cX6_ends 8 = .ok (.invokevirtual 79, 3) := by decide +kernel
theorem dX6_ends_11 : decode cX6_ends 11 = .ok (.istore_n 2, 1) := by decide +kernel
theorem dX6_ends_12 : decode cX6_ends 12 = .ok (.aload_n 0, 1) := by decide +kernel
theorem dX6_ends_13 : decode cX6_ends 13 = .ok (.iload_n 1, 1) := by decide +kernel
theorem dX6_ends_14 : decode cX6_ends 14 = .ok (.invokevirtual 83, 3) := by decide +kernel
theorem dX6_ends_17 : decode cX6_ends 17 = .ok (.aload_n 0, 1) := by decide +kernel
theorem dX6_ends_18 : decode cX6_ends 18 = .ok (.iload_n 1, 1) := by decide +kernel
theorem dX6_ends_19 : decode cX6_ends 19 = .ok (.iconst 3, 1) := by decide +kernel
theorem dX6_ends_20 : decode cX6_ends 20 = .ok (.iconst 1, 1) := by decide +kernel
theorem dX6_ends_21 : decode cX6_ends 21 = .ok (.invokevirtual 87, 3) := by decide +kernel
theorem dX6_ends_24 : decode cX6_ends 24 = .ok (.aload_n 0, 1) := by decide +kernel
theorem dX6_ends_25 : decode cX6_ends 25 = .ok (.getfield 7, 3) := by decide +kernel
theorem dX6_ends_28 : decode cX6_ends 28 = .ok (.bipush 7, 2) := by decide +kernel
theorem dX6_ends_30 : decode cX6_ends 30 = .ok (.dup2, 1) := by decide +kernel
theorem dX6_ends_31 : decode cX6_ends 31 = .ok (.iaload, 1) := by decide +kernel
theorem dX6_ends_32 : decode cX6_ends 32 = .ok (.iconst 1, 1) := by decide +kernel
theorem dX6_ends_33 : decode cX6_ends 33 = .ok (.iadd, 1) := by decide +kernel
theorem dX6_ends_34 : decode cX6_ends 34 = .ok (.iastore, 1) := by decide +kernel
theorem dX6_ends_35 : decode cX6_ends 35 = .ok (.aload_n 0, 1) := by decide +kernel
theorem dX6_ends_36 : decode cX6_ends 36 = .ok (.getfield 7, 3) := by decide +kernel
theorem dX6_ends_39 : decode cX6_ends 39 = .ok (.iconst 5, 1) := by decide +kernel
theorem dX6_ends_40 : decode cX6_ends 40 = .ok (.iload_n 1, 1) := by decide +kernel
theorem dX6_ends_41 : decode cX6_ends 41 = .ok (.iconst 1, 1) := by decide +kernel
theorem dX6_ends_42 : decode cX6_ends 42 = .ok (.iadd, 1) := by decide +kernel
theorem dX6_ends_43 : decode cX6_ends 43 = .ok (.aload_n 0, 1) := by decide +kernel
theorem dX6_ends_44 : decode cX6_ends 44 = .ok (.getfield 7, 3) := by decide +kernel
theorem dX6_ends_47 : decode cX6_ends 47 = .ok (.iconst 4, 1) := by decide +kernel
theorem dX6_ends_48 : decode cX6_ends 48 = .ok (.iaload, 1) := by decide +kernel
theorem dX6_ends_49 : decode cX6_ends 49 = .ok (.irem, 1) := by decide +kernel
theorem dX6_ends_50 : decode cX6_ends 50 = .ok (.iastore, 1) := by decide +kernel
theorem dX6_ends_51 : decode cX6_ends 51 = .ok (.iload_n 2, 1) := by decide +kernel
theorem dX6_ends_52 : decode cX6_ends 52 = .ok (.ireturn, 1) := by decide +kernel
theorem dX6_refuses_0 : decode cX6_refuses 0 = .ok (.aload_n 0, 1) := by decide +kernel
theorem dX6_refuses_1 : decode cX6_refuses 1 = .ok (.getfield 7, 3) := by decide +kernel
theorem dX6_refuses_4 : decode cX6_refuses 4 = .ok (.bipush 8, 2) := by decide +kernel
theorem dX6_refuses_6 : decode cX6_refuses 6 = .ok (.dup2, 1) := by decide +kernel
theorem dX6_refuses_7 : decode cX6_refuses 7 = .ok (.iaload, 1) := by decide +kernel
theorem dX6_refuses_8 : decode cX6_refuses 8 = .ok (.iconst 1, 1) := by decide +kernel
theorem dX6_refuses_9 : decode cX6_refuses 9 = .ok (.iadd, 1) := by decide +kernel
theorem dX6_refuses_10 : decode cX6_refuses 10 = .ok (.iastore, 1) := by decide +kernel
theorem dX6_refuses_11 : decode cX6_refuses 11 = .ok (.iload_n 1, 1) := by decide +kernel
theorem dX6_refuses_12 : decode cX6_refuses 12 = .ok (.ireturn, 1) := by decide +kernel
theorem dX6_waits_0 : decode cX6_waits 0 = .ok (.aload_n 0, 1) := by decide +kernel
theorem dX6_waits_1 : decode cX6_waits 1 = .ok (.aload_n 0, 1) := by decide +kernel
theorem dX6_waits_2 : decode cX6_waits 2 = .ok (.getfield 7, 3) := by decide +kernel
theorem dX6_waits_5 : decode cX6_waits 5 = .ok (.iconst 5, 1) := by decide +kernel
theorem dX6_waits_6 : decode cX6_waits 6 = .ok (.iaload, 1) := by decide +kernel
theorem dX6_waits_7 : decode cX6_waits 7 = .ok (.invokevirtual 91, 3) := by decide +kernel
theorem dX6_waits_10 : decode cX6_waits 10 = .ok (.aload_n 0, 1) := by decide +kernel
theorem dX6_waits_11 : decode cX6_waits 11 = .ok (.invokevirtual 94, 3) := by decide +kernel
theorem dX6_waits_14 : decode cX6_waits 14 = .ok (.ireturn, 1) := by decide +kernel
theorem dX6_goes_0 : decode cX6_goes 0 = .ok (.aload_n 0, 1) := by decide +kernel
theorem dX6_goes_1 : decode cX6_goes 1 = .ok (.getfield 7, 3) := by decide +kernel
theorem dX6_goes_4 : decode cX6_goes 4 = .ok (.iconst 5, 1) := by decide +kernel
theorem dX6_goes_5 : decode cX6_goes 5 = .ok (.iaload, 1) := by decide +kernel
theorem dX6_goes_6 : decode cX6_goes 6 = .ok (.istore_n 2, 1) := by decide +kernel
theorem dX6_goes_7 : decode cX6_goes 7 = .ok (.aload_n 0, 1) := by decide +kernel
theorem dX6_goes_8 : decode cX6_goes 8 = .ok (.iload_n 2, 1) := by decide +kernel
theorem dX6_goes_9 : decode cX6_goes 9 = .ok (.invokevirtual 91, 3) := by decide +kernel
theorem dX6_goes_12 : decode cX6_goes 12 = .ok (.aload_n 0, 1) := by decide +kernel
theorem dX6_goes_13 : decode cX6_goes 13 = .ok (.iload_n 1, 1) := by decide +kernel
theorem dX6_goes_14 : decode cX6_goes 14 = .ok (.invokevirtual 97, 3) := by decide +kernel
theorem dX6_goes_17 : decode cX6_goes 17 = .ok (.istore_n 3, 1) := by decide +kernel
theorem dX6_goes_18 : decode cX6_goes 18 = .ok (.iload_n 3, 1) := by decide +kernel
theorem dX6_goes_19 : decode cX6_goes 19 = .ok (.ifCond .eq 9, 3) := by decide +kernel
theorem dX6_goes_22 : decode cX6_goes 22 = .ok (.aload_n 0, 1) := by decide +kernel
theorem dX6_goes_23 : decode cX6_goes 23 = .ok (.iload_n 3, 1) := by decide +kernel
theorem dX6_goes_24 : decode cX6_goes 24 = .ok (.invokevirtual 100, 3) := by decide +kernel
theorem dX6_goes_27 : decode cX6_goes 27 = .ok (.ireturn, 1) := by decide +kernel
theorem dX6_goes_28 : decode cX6_goes 28 = .ok (.aload_n 0, 1) := by decide +kernel
theorem dX6_goes_29 : decode cX6_goes 29 = .ok (.iload_n 2, 1) := by decide +kernel
theorem dX6_goes_30 : decode cX6_goes 30 = .ok (.bipush 6, 2) := by decide +kernel
theorem dX6_goes_32 : decode cX6_goes 32 = .ok (.aload_n 0, 1) := by decide +kernel
theorem dX6_goes_33 : decode cX6_goes 33 = .ok (.aload_n 0, 1) := by decide +kernel
theorem dX6_goes_34 : decode cX6_goes 34 = .ok (.getfield 67, 3) := by decide +kernel
theorem dX6_goes_37 : decode cX6_goes 37 = .ok (.iload_n 1, 1) := by decide +kernel
theorem dX6_goes_38 : decode cX6_goes 38 = .ok (.invokevirtual 76, 3) := by decide +kernel
theorem dX6_goes_41 : decode cX6_goes 41 = .ok (.invokevirtual 87, 3) := by decide +kernel
theorem dX6_goes_44 : decode cX6_goes 44 = .ok (.aload_n 0, 1) := by decide +kernel
theorem dX6_goes_45 : decode cX6_goes 45 = .ok (.iload_n 1, 1) := by decide +kernel
theorem dX6_goes_46 : decode cX6_goes 46 = .ok (.invokevirtual 103, 3) := by decide +kernel
theorem dX6_goes_49 : decode cX6_goes 49 = .ok (.aload_n 0, 1) := by decide +kernel
theorem dX6_goes_50 : decode cX6_goes 50 = .ok (.invokevirtual 94, 3) := by decide +kernel
theorem dX6_goes_53 : decode cX6_goes 53 = .ok (.istore 4, 2) := by decide +kernel
theorem dX6_goes_55 : decode cX6_goes 55 = .ok (.iconst 0, 1) := by decide +kernel
theorem dX6_goes_56 : decode cX6_goes 56 = .ok (.ireturn, 1) := by decide +kernel
theorem dX6_overs_0 : decode cX6_overs 0 = .ok (.aload_n 0, 1) := by decide +kernel
theorem dX6_overs_1 : decode cX6_overs 1 = .ok (.getfield 7, 3) := by decide +kernel
theorem dX6_overs_4 : decode cX6_overs 4 = .ok (.iconst 5, 1) := by decide +kernel
theorem dX6_overs_5 : decode cX6_overs 5 = .ok (.iaload, 1) := by decide +kernel
theorem dX6_overs_6 : decode cX6_overs 6 = .ok (.istore_n 1, 1) := by decide +kernel
theorem dX6_overs_7 : decode cX6_overs 7 = .ok (.aload_n 0, 1) := by decide +kernel
theorem dX6_overs_8 : decode cX6_overs 8 = .ok (.iload_n 1, 1) := by decide +kernel
theorem dX6_overs_9 : decode cX6_overs 9 = .ok (.invokevirtual 91, 3) := by decide +kernel
theorem dX6_overs_12 : decode cX6_overs 12 = .ok (.aload_n 0, 1) := by decide +kernel
theorem dX6_overs_13 : decode cX6_overs 13 = .ok (.getfield 7, 3) := by decide +kernel
theorem dX6_overs_16 : decode cX6_overs 16 = .ok (.iconst 2, 1) := by decide +kernel
theorem dX6_overs_17 : decode cX6_overs 17 = .ok (.iaload, 1) := by decide +kernel
theorem dX6_overs_18 : decode cX6_overs 18 = .ok (.aload_n 0, 1) := by decide +kernel
theorem dX6_overs_19 : decode cX6_overs 19 = .ok (.getfield 73, 3) := by decide +kernel
theorem dX6_overs_22 : decode cX6_overs 22 = .ok (.if_icmp .le 9, 3) := by decide +kernel
theorem dX6_overs_25 : decode cX6_overs 25 = .ok (.aload_n 0, 1) := by decide +kernel
theorem dX6_overs_26 : decode cX6_overs 26 = .ok (.iconst 4, 1) := by decide +kernel
theorem dX6_overs_27 : decode cX6_overs 27 = .ok (.invokevirtual 100, 3) := by decide +kernel
theorem dX6_overs_30 : decode cX6_overs 30 = .ok (.ireturn, 1) := by decide +kernel
theorem dX6_overs_31 : decode cX6_overs 31 = .ok (.aload_n 0, 1) := by decide +kernel
theorem dX6_overs_32 : decode cX6_overs 32 = .ok (.iload_n 1, 1) := by decide +kernel
theorem dX6_overs_33 : decode cX6_overs 33 = .ok (.bipush 6, 2) := by decide +kernel
theorem dX6_overs_35 : decode cX6_overs 35 = .ok (.aload_n 0, 1) := by decide +kernel
theorem dX6_overs_36 : decode cX6_overs 36 = .ok (.getfield 7, 3) := by decide +kernel
theorem dX6_overs_39 : decode cX6_overs 39 = .ok (.iconst 2, 1) := by decide +kernel
theorem dX6_overs_40 : decode cX6_overs 40 = .ok (.iaload, 1) := by decide +kernel
theorem dX6_overs_41 : decode cX6_overs 41 = .ok (.invokevirtual 87, 3) := by decide +kernel
theorem dX6_overs_44 : decode cX6_overs 44 = .ok (.aload_n 0, 1) := by decide +kernel
theorem dX6_overs_45 : decode cX6_overs 45 = .ok (.invokevirtual 106, 3) := by decide +kernel
theorem dX6_overs_48 : decode cX6_overs 48 = .ok (.aload_n 0, 1) := by decide +kernel
theorem dX6_overs_49 : decode cX6_overs 49 = .ok (.invokevirtual 94, 3) := by decide +kernel
theorem dX6_overs_52 : decode cX6_overs 52 = .ok (.istore_n 2, 1) := by decide +kernel
theorem dX6_overs_53 : decode cX6_overs 53 = .ok (.iconst 0, 1) := by decide +kernel
theorem dX6_overs_54 : decode cX6_overs 54 = .ok (.ireturn, 1) := by decide +kernel
theorem dX6_tagReason_0 : decode cX6_tagReason 0 = .ok (.aload_n 0, 1) := by decide +kernel
theorem dX6_tagReason_1 : decode cX6_tagReason 1 = .ok (.iload_n 1, 1) := by decide +kernel
theorem dX6_tagReason_2 : decode cX6_tagReason 2 = .ok (.iconst 0, 1) := by decide +kernel
theorem dX6_tagReason_3 : decode cX6_tagReason 3 = .ok (.invokevirtual 63, 3) := by decide +kernel
theorem dX6_tagReason_6 : decode cX6_tagReason 6 = .ok (.istore_n 3, 1) := by decide +kernel
theorem dX6_tagReason_7 : decode cX6_tagReason 7 = .ok (.aload_n 0, 1) := by decide +kernel
theorem dX6_tagReason_8 : decode cX6_tagReason 8 = .ok (.iload_n 2, 1) := by decide +kernel
theorem dX6_tagReason_9 : decode cX6_tagReason 9 = .ok (.iconst 0, 1) := by decide +kernel
theorem dX6_tagReason_10 : decode cX6_tagReason 10 = .ok (.invokevirtual 63, 3) := by decide +kernel
theorem dX6_tagReason_13 : decode cX6_tagReason 13 = .ok (.istore 4, 2) := by decide +kernel
theorem dX6_tagReason_15 : decode cX6_tagReason 15 = .ok (.iload_n 1, 1) := by decide +kernel
theorem dX6_tagReason_16 : decode cX6_tagReason 16 = .ok (.aload_n 0, 1) := by decide +kernel
theorem dX6_tagReason_17 : decode cX6_tagReason 17 = .ok (.getfield 7, 3) := by decide +kernel
theorem dX6_tagReason_20 : decode cX6_tagReason 20 = .ok (.bipush 6, 2) := by decide +kernel
theorem dX6_tagReason_22 : decode cX6_tagReason 22 = .ok (.iaload, 1) := by decide +kernel
theorem dX6_tagReason_23 : decode cX6_tagReason 23 = .ok (.if_icmp .eq 7, 3) := by decide +kernel
theorem dX6_tagReason_26 : decode cX6_tagReason 26 = .ok (.iconst 5, 1) := by decide +kernel
theorem dX6_tagReason_27 : decode cX6_tagReason 27 = .ok (.goto 49, 3) := by decide +kernel
theorem dX6_tagReason_30 : decode cX6_tagReason 30 = .ok (.iload_n 1, 1) := by decide +kernel
theorem dX6_tagReason_31 : decode cX6_tagReason 31 = .ok (.iload_n 2, 1) := by decide +kernel
theorem dX6_tagReason_32 : decode cX6_tagReason 32 = .ok (.if_icmp .ne 8, 3) := by decide +kernel
theorem dX6_tagReason_35 : decode cX6_tagReason 35 = .ok (.bipush 6, 2) := by decide +kernel
theorem dX6_tagReason_37 : decode cX6_tagReason 37 = .ok (.goto 39, 3) := by decide +kernel
theorem dX6_tagReason_40 : decode cX6_tagReason 40 = .ok (.aload_n 0, 1) := by decide +kernel
theorem dX6_tagReason_41 : decode cX6_tagReason 41 = .ok (.iload_n 3, 1) := by decide +kernel
theorem dX6_tagReason_42 : decode cX6_tagReason 42 = .ok (.iload 4, 2) := by decide +kernel
theorem dX6_tagReason_44 : decode cX6_tagReason 44 = .ok (.invokevirtual 59, 3) := by decide +kernel
theorem dX6_tagReason_47 : decode cX6_tagReason 47 = .ok (.ifCond .ne 7, 3) := by decide +kernel
theorem dX6_tagReason_50 : decode cX6_tagReason 50 = .ok (.iconst 2, 1) := by decide +kernel
theorem dX6_tagReason_51 : decode cX6_tagReason 51 = .ok (.goto 25, 3) := by decide +kernel
theorem dX6_tagReason_54 : decode cX6_tagReason 54 = .ok (.iload_n 3, 1) := by decide +kernel
theorem dX6_tagReason_55 : decode cX6_tagReason 55 = .ok (.iload 4, 2) := by decide +kernel
theorem dX6_tagReason_57 : decode cX6_tagReason 57 = .ok (.isub, 1) := by decide +kernel
theorem dX6_tagReason_58 : decode cX6_tagReason 58 = .ok (.invokestatic 56, 3) := by decide +kernel
theorem dX6_tagReason_61 : decode cX6_tagReason 61 = .ok (.aload_n 0, 1) := by decide +kernel
theorem dX6_tagReason_62 : decode cX6_tagReason 62 = .ok (.getfield 7, 3) := by decide +kernel
theorem dX6_tagReason_65 : decode cX6_tagReason 65 = .ok (.iconst 3, 1) := by decide +kernel
theorem dX6_tagReason_66 : decode cX6_tagReason 66 = .ok (.iaload, 1) := by decide +kernel
theorem dX6_tagReason_67 : decode cX6_tagReason 67 = .ok (.if_icmp .le 8, 3) := by decide +kernel
theorem dX6_tagReason_70 : decode cX6_tagReason 70 = .ok (.bipush 7, 2) := by decide +kernel
theorem dX6_tagReason_72 : decode cX6_tagReason 72 = .ok (.goto 4, 3) := by decide +kernel
theorem dX6_tagReason_75 : decode cX6_tagReason 75 = .ok (.iconst 0, 1) := by decide +kernel
theorem dX6_tagReason_76 : decode cX6_tagReason 76 = .ok (.ireturn, 1) := by decide +kernel
theorem dX6_tags_0 : decode cX6_tags 0 = .ok (.aload_n 0, 1) := by decide +kernel
theorem dX6_tags_1 : decode cX6_tags 1 = .ok (.getfield 7, 3) := by decide +kernel
theorem dX6_tags_4 : decode cX6_tags 4 = .ok (.iconst 5, 1) := by decide +kernel
theorem dX6_tags_5 : decode cX6_tags 5 = .ok (.iaload, 1) := by decide +kernel
theorem dX6_tags_6 : decode cX6_tags 6 = .ok (.istore_n 2, 1) := by decide +kernel
theorem dX6_tags_7 : decode cX6_tags 7 = .ok (.aload_n 0, 1) := by decide +kernel
theorem dX6_tags_8 : decode cX6_tags 8 = .ok (.iload_n 2, 1) := by decide +kernel
theorem dX6_tags_9 : decode cX6_tags 9 = .ok (.iload_n 1, 1) := by decide +kernel
theorem dX6_tags_10 : decode cX6_tags 10 = .ok (.invokevirtual 109, 3) := by decide +kernel
theorem dX6_tags_13 : decode cX6_tags 13 = .ok (.istore_n 3, 1) := by decide +kernel
theorem dX6_tags_14 : decode cX6_tags 14 = .ok (.iload_n 3, 1) := by decide +kernel
theorem dX6_tags_15 : decode cX6_tags 15 = .ok (.ifCond .eq 9, 3) := by decide +kernel
theorem dX6_tags_18 : decode cX6_tags 18 = .ok (.aload_n 0, 1) := by decide +kernel
theorem dX6_tags_19 : decode cX6_tags 19 = .ok (.iload_n 3, 1) := by decide +kernel
theorem dX6_tags_20 : decode cX6_tags 20 = .ok (.invokevirtual 100, 3) := by decide +kernel
theorem dX6_tags_23 : decode cX6_tags 23 = .ok (.ireturn, 1) := by decide +kernel
theorem dX6_tags_24 : decode cX6_tags 24 = .ok (.aload_n 0, 1) := by decide +kernel
theorem dX6_tags_25 : decode cX6_tags 25 = .ok (.iload_n 1, 1) := by decide +kernel
theorem dX6_tags_26 : decode cX6_tags 26 = .ok (.iconst 2, 1) := by decide +kernel
theorem dX6_tags_27 : decode cX6_tags 27 = .ok (.invokevirtual 63, 3) := by decide +kernel
theorem dX6_tags_30 : decode cX6_tags 30 = .ok (.iconst 2, 1) := by decide +kernel
theorem dX6_tags_31 : decode cX6_tags 31 = .ok (.idiv, 1) := by decide +kernel
theorem dX6_tags_32 : decode cX6_tags 32 = .ok (.istore 4, 2) := by decide +kernel
theorem dX6_tags_34 : decode cX6_tags 34 = .ok (.aload_n 0, 1) := by decide +kernel
theorem dX6_tags_35 : decode cX6_tags 35 = .ok (.iload_n 1, 1) := by decide +kernel
theorem dX6_tags_36 : decode cX6_tags 36 = .ok (.iconst 2, 1) := by decide +kernel
theorem dX6_tags_37 : decode cX6_tags 37 = .ok (.iload 4, 2) := by decide +kernel
theorem dX6_tags_39 : decode cX6_tags 39 = .ok (.ineg, 1) := by decide +kernel
theorem dX6_tags_40 : decode cX6_tags 40 = .ok (.invokevirtual 87, 3) := by decide +kernel
theorem dX6_tags_43 : decode cX6_tags 43 = .ok (.aload_n 0, 1) := by decide +kernel
theorem dX6_tags_44 : decode cX6_tags 44 = .ok (.iload_n 2, 1) := by decide +kernel
theorem dX6_tags_45 : decode cX6_tags 45 = .ok (.iconst 1, 1) := by decide +kernel
theorem dX6_tags_46 : decode cX6_tags 46 = .ok (.iload 4, 2) := by decide +kernel
theorem dX6_tags_48 : decode cX6_tags 48 = .ok (.invokevirtual 87, 3) := by decide +kernel
theorem dX6_tags_51 : decode cX6_tags 51 = .ok (.aload_n 0, 1) := by decide +kernel
theorem dX6_tags_52 : decode cX6_tags 52 = .ok (.iload_n 2, 1) := by decide +kernel
theorem dX6_tags_53 : decode cX6_tags 53 = .ok (.iconst 4, 1) := by decide +kernel
theorem dX6_tags_54 : decode cX6_tags 54 = .ok (.iconst 1, 1) := by decide +kernel
theorem dX6_tags_55 : decode cX6_tags 55 = .ok (.invokevirtual 87, 3) := by decide +kernel
theorem dX6_tags_58 : decode cX6_tags 58 = .ok (.aload_n 0, 1) := by decide +kernel
theorem dX6_tags_59 : decode cX6_tags 59 = .ok (.iload_n 1, 1) := by decide +kernel
theorem dX6_tags_60 : decode cX6_tags 60 = .ok (.iconst 5, 1) := by decide +kernel
theorem dX6_tags_61 : decode cX6_tags 61 = .ok (.iconst 1, 1) := by decide +kernel
theorem dX6_tags_62 : decode cX6_tags 62 = .ok (.invokevirtual 87, 3) := by decide +kernel
theorem dX6_tags_65 : decode cX6_tags 65 = .ok (.aload_n 0, 1) := by decide +kernel
theorem dX6_tags_66 : decode cX6_tags 66 = .ok (.getfield 7, 3) := by decide +kernel
theorem dX6_tags_69 : decode cX6_tags 69 = .ok (.bipush 9, 2) := by decide +kernel
theorem dX6_tags_71 : decode cX6_tags 71 = .ok (.dup2, 1) := by decide +kernel
theorem dX6_tags_72 : decode cX6_tags 72 = .ok (.iaload, 1) := by decide +kernel
theorem dX6_tags_73 : decode cX6_tags 73 = .ok (.iconst 1, 1) := by decide +kernel
theorem dX6_tags_74 : decode cX6_tags 74 = .ok (.iadd, 1) := by decide +kernel
theorem dX6_tags_75 : decode cX6_tags 75 = .ok (.iastore, 1) := by decide +kernel
theorem dX6_tags_76 : decode cX6_tags 76 = .ok (.aload_n 0, 1) := by decide +kernel
theorem dX6_tags_77 : decode cX6_tags 77 = .ok (.getfield 7, 3) := by decide +kernel
theorem dX6_tags_80 : decode cX6_tags 80 = .ok (.bipush 6, 2) := by decide +kernel
theorem dX6_tags_82 : decode cX6_tags 82 = .ok (.iload_n 1, 1) := by decide +kernel
theorem dX6_tags_83 : decode cX6_tags 83 = .ok (.iastore, 1) := by decide +kernel
theorem dX6_tags_84 : decode cX6_tags 84 = .ok (.aload_n 0, 1) := by decide +kernel
theorem dX6_tags_85 : decode cX6_tags 85 = .ok (.iload_n 2, 1) := by decide +kernel
theorem dX6_tags_86 : decode cX6_tags 86 = .ok (.invokevirtual 91, 3) := by decide +kernel
theorem dX6_tags_89 : decode cX6_tags 89 = .ok (.aload_n 0, 1) := by decide +kernel
theorem dX6_tags_90 : decode cX6_tags 90 = .ok (.invokevirtual 94, 3) := by decide +kernel
theorem dX6_tags_93 : decode cX6_tags 93 = .ok (.istore 5, 2) := by decide +kernel
theorem dX6_tags_95 : decode cX6_tags 95 = .ok (.iconst 0, 1) := by decide +kernel
theorem dX6_tags_96 : decode cX6_tags 96 = .ok (.ireturn, 1) := by decide +kernel
theorem dX6_isOver_0 : decode cX6_isOver 0 = .ok (.aload_n 0, 1) := by decide +kernel
theorem dX6_isOver_1 : decode cX6_isOver 1 = .ok (.getfield 7, 3) := by decide +kernel
theorem dX6_isOver_4 : decode cX6_isOver 4 = .ok (.iconst 4, 1) := by decide +kernel
theorem dX6_isOver_5 : decode cX6_isOver 5 = .ok (.iaload, 1) := by decide +kernel
theorem dX6_isOver_6 : decode cX6_isOver 6 = .ok (.ifCond .eq 16, 3) := by decide +kernel
theorem dX6_isOver_9 : decode cX6_isOver 9 = .ok (.aload_n 0, 1) := by decide +kernel
theorem dX6_isOver_10 : decode cX6_isOver 10 = .ok (.getfield 7, 3) := by decide +kernel
theorem dX6_isOver_13 : decode cX6_isOver 13 = .ok (.bipush 7, 2) := by decide +kernel
theorem dX6_isOver_15 : decode cX6_isOver 15 = .ok (.iaload, 1) := by decide +kernel
theorem dX6_isOver_16 : decode cX6_isOver 16 = .ok (.sipush 9999, 3) := by decide +kernel
theorem dX6_isOver_19 : decode cX6_isOver 19 = .ok (.if_icmp .lt 7, 3) := by decide +kernel
theorem dX6_isOver_22 : decode cX6_isOver 22 = .ok (.iconst 1, 1) := by decide +kernel
theorem dX6_isOver_23 : decode cX6_isOver 23 = .ok (.goto 4, 3) := by decide +kernel
theorem dX6_isOver_26 : decode cX6_isOver 26 = .ok (.iconst 0, 1) := by decide +kernel
theorem dX6_isOver_27 : decode cX6_isOver 27 = .ok (.ireturn, 1) := by decide +kernel
theorem dX6_height_0 : decode cX6_height 0 = .ok (.aload_n 0, 1) := by decide +kernel
theorem dX6_height_1 : decode cX6_height 1 = .ok (.iconst 0, 1) := by decide +kernel
theorem dX6_height_2 : decode cX6_height 2 = .ok (.putfield 35, 3) := by decide +kernel
theorem dX6_height_5 : decode cX6_height 5 = .ok (.iload_n 1, 1) := by decide +kernel
theorem dX6_height_6 : decode cX6_height 6 = .ok (.iconst 0, 1) := by decide +kernel
theorem dX6_height_7 : decode cX6_height 7 = .ok (.bipush 9, 2) := by decide +kernel
theorem dX6_height_9 : decode cX6_height 9 = .ok (.invokestatic 39, 3) := by decide +kernel
theorem dX6_height_12 : decode cX6_height 12 = .ok (.ifCond .ne 9, 3) := by decide +kernel
theorem dX6_height_15 : decode cX6_height 15 = .ok (.aload_n 0, 1) := by decide +kernel
theorem dX6_height_16 : decode cX6_height 16 = .ok (.iconst 1, 1) := by decide +kernel
theorem dX6_height_17 : decode cX6_height 17 = .ok (.invokevirtual 46, 3) := by decide +kernel
theorem dX6_height_20 : decode cX6_height 20 = .ok (.ireturn, 1) := by decide +kernel
theorem dX6_height_21 : decode cX6_height 21 = .ok (.iload_n 2, 1) := by decide +kernel
theorem dX6_height_22 : decode cX6_height 22 = .ok (.iconst 0, 1) := by decide +kernel
theorem dX6_height_23 : decode cX6_height 23 = .ok (.bipush 9, 2) := by decide +kernel
theorem dX6_height_25 : decode cX6_height 25 = .ok (.invokestatic 39, 3) := by decide +kernel
theorem dX6_height_28 : decode cX6_height 28 = .ok (.ifCond .ne 9, 3) := by decide +kernel
theorem dX6_height_31 : decode cX6_height 31 = .ok (.aload_n 0, 1) := by decide +kernel
theorem dX6_height_32 : decode cX6_height 32 = .ok (.iconst 2, 1) := by decide +kernel
theorem dX6_height_33 : decode cX6_height 33 = .ok (.invokevirtual 46, 3) := by decide +kernel
theorem dX6_height_36 : decode cX6_height 36 = .ok (.ireturn, 1) := by decide +kernel
theorem dX6_height_37 : decode cX6_height 37 = .ok (.aload_n 0, 1) := by decide +kernel
theorem dX6_height_38 : decode cX6_height 38 = .ok (.invokevirtual 50, 3) := by decide +kernel
theorem dX6_height_41 : decode cX6_height 41 = .ok (.aload_n 0, 1) := by decide +kernel
theorem dX6_height_42 : decode cX6_height 42 = .ok (.getfield 7, 3) := by decide +kernel
theorem dX6_height_45 : decode cX6_height 45 = .ok (.bipush 11, 2) := by decide +kernel
theorem dX6_height_47 : decode cX6_height 47 = .ok (.iload_n 1, 1) := by decide +kernel
theorem dX6_height_48 : decode cX6_height 48 = .ok (.iadd, 1) := by decide +kernel
theorem dX6_height_49 : decode cX6_height 49 = .ok (.iaload, 1) := by decide +kernel
theorem dX6_height_50 : decode cX6_height 50 = .ok (.istore_n 3, 1) := by decide +kernel
theorem dX6_height_51 : decode cX6_height 51 = .ok (.aload_n 0, 1) := by decide +kernel
theorem dX6_height_52 : decode cX6_height 52 = .ok (.getfield 7, 3) := by decide +kernel
theorem dX6_height_55 : decode cX6_height 55 = .ok (.bipush 11, 2) := by decide +kernel
theorem dX6_height_57 : decode cX6_height 57 = .ok (.iload_n 1, 1) := by decide +kernel
theorem dX6_height_58 : decode cX6_height 58 = .ok (.iadd, 1) := by decide +kernel
theorem dX6_height_59 : decode cX6_height 59 = .ok (.iload_n 2, 1) := by decide +kernel
theorem dX6_height_60 : decode cX6_height 60 = .ok (.iastore, 1) := by decide +kernel
theorem dX6_height_61 : decode cX6_height 61 = .ok (.aload_n 0, 1) := by decide +kernel
theorem dX6_height_62 : decode cX6_height 62 = .ok (.iload_n 3, 1) := by decide +kernel
theorem dX6_height_63 : decode cX6_height 63 = .ok (.invokevirtual 53, 3) := by decide +kernel
theorem dX6_height_66 : decode cX6_height 66 = .ok (.ireturn, 1) := by decide +kernel
theorem dX6_player_0 : decode cX6_player 0 = .ok (.aload_n 0, 1) := by decide +kernel
theorem dX6_player_1 : decode cX6_player 1 = .ok (.iconst 0, 1) := by decide +kernel
theorem dX6_player_2 : decode cX6_player 2 = .ok (.putfield 35, 3) := by decide +kernel
theorem dX6_player_5 : decode cX6_player 5 = .ok (.iload_n 1, 1) := by decide +kernel
theorem dX6_player_6 : decode cX6_player 6 = .ok (.iconst 0, 1) := by decide +kernel
theorem dX6_player_7 : decode cX6_player 7 = .ok (.bipush 9, 2) := by decide +kernel
theorem dX6_player_9 : decode cX6_player 9 = .ok (.invokestatic 39, 3) := by decide +kernel
theorem dX6_player_12 : decode cX6_player 12 = .ok (.ifCond .ne 9, 3) := by decide +kernel
theorem dX6_player_15 : decode cX6_player 15 = .ok (.aload_n 0, 1) := by decide +kernel
theorem dX6_player_16 : decode cX6_player 16 = .ok (.iconst 1, 1) := by decide +kernel
theorem dX6_player_17 : decode cX6_player 17 = .ok (.invokevirtual 46, 3) := by decide +kernel
theorem dX6_player_20 : decode cX6_player 20 = .ok (.ireturn, 1) := by decide +kernel
theorem dX6_player_21 : decode cX6_player 21 = .ok (.iload_n 2, 1) := by decide +kernel
theorem dX6_player_22 : decode cX6_player 22 = .ok (.iconst 0, 1) := by decide +kernel
theorem dX6_player_23 : decode cX6_player 23 = .ok (.sipush 200, 3) := by decide +kernel
theorem dX6_player_26 : decode cX6_player 26 = .ok (.invokestatic 39, 3) := by decide +kernel
theorem dX6_player_29 : decode cX6_player 29 = .ok (.ifCond .ne 9, 3) := by decide +kernel
theorem dX6_player_32 : decode cX6_player 32 = .ok (.aload_n 0, 1) := by decide +kernel
theorem dX6_player_33 : decode cX6_player 33 = .ok (.iconst 2, 1) := by decide +kernel
theorem dX6_player_34 : decode cX6_player 34 = .ok (.invokevirtual 46, 3) := by decide +kernel
theorem dX6_player_37 : decode cX6_player 37 = .ok (.ireturn, 1) := by decide +kernel
theorem dX6_player_38 : decode cX6_player 38 = .ok (.aload_n 0, 1) := by decide +kernel
theorem dX6_player_39 : decode cX6_player 39 = .ok (.getfield 7, 3) := by decide +kernel
theorem dX6_player_42 : decode cX6_player 42 = .ok (.iconst 4, 1) := by decide +kernel
theorem dX6_player_43 : decode cX6_player 43 = .ok (.iaload, 1) := by decide +kernel
theorem dX6_player_44 : decode cX6_player 44 = .ok (.istore_n 3, 1) := by decide +kernel
theorem dX6_player_45 : decode cX6_player 45 = .ok (.iload_n 3, 1) := by decide +kernel
theorem dX6_player_46 : decode cX6_player 46 = .ok (.iconst 4, 1) := by decide +kernel
theorem dX6_player_47 : decode cX6_player 47 = .ok (.if_icmp .ne 9, 3) := by decide +kernel
theorem dX6_player_50 : decode cX6_player 50 = .ok (.aload_n 0, 1) := by decide +kernel
theorem dX6_player_51 : decode cX6_player 51 = .ok (.iconst 3, 1) := by decide +kernel
theorem dX6_player_52 : decode cX6_player 52 = .ok (.invokevirtual 46, 3) := by decide +kernel
theorem dX6_player_55 : decode cX6_player 55 = .ok (.ireturn, 1) := by decide +kernel
theorem dX6_player_56 : decode cX6_player 56 = .ok (.aload_n 0, 1) := by decide +kernel
theorem dX6_player_57 : decode cX6_player 57 = .ok (.invokevirtual 50, 3) := by decide +kernel
theorem dX6_player_60 : decode cX6_player 60 = .ok (.aload_n 0, 1) := by decide +kernel
theorem dX6_player_61 : decode cX6_player 61 = .ok (.getfield 7, 3) := by decide +kernel
theorem dX6_player_64 : decode cX6_player 64 = .ok (.bipush 31, 2) := by decide +kernel
theorem dX6_player_66 : decode cX6_player 66 = .ok (.bipush 7, 2) := by decide +kernel
theorem dX6_player_68 : decode cX6_player 68 = .ok (.iload_n 3, 1) := by decide +kernel
theorem dX6_player_69 : decode cX6_player 69 = .ok (.imul, 1) := by decide +kernel
theorem dX6_player_70 : decode cX6_player 70 = .ok (.iadd, 1) := by decide +kernel
theorem dX6_player_71 : decode cX6_player 71 = .ok (.iconst 0, 1) := by decide +kernel
theorem dX6_player_72 : decode cX6_player 72 = .ok (.iadd, 1) := by decide +kernel
theorem dX6_player_73 : decode cX6_player 73 = .ok (.iload_n 1, 1) := by decide +kernel
theorem dX6_player_74 : decode cX6_player 74 = .ok (.iastore, 1) := by decide +kernel
theorem dX6_player_75 : decode cX6_player 75 = .ok (.aload_n 0, 1) := by decide +kernel
theorem dX6_player_76 : decode cX6_player 76 = .ok (.getfield 7, 3) := by decide +kernel
theorem dX6_player_79 : decode cX6_player 79 = .ok (.bipush 31, 2) := by decide +kernel
theorem dX6_player_81 : decode cX6_player 81 = .ok (.bipush 7, 2) := by decide +kernel
theorem dX6_player_83 : decode cX6_player 83 = .ok (.iload_n 3, 1) := by decide +kernel
theorem dX6_player_84 : decode cX6_player 84 = .ok (.imul, 1) := by decide +kernel
theorem dX6_player_85 : decode cX6_player 85 = .ok (.iadd, 1) := by decide +kernel
theorem dX6_player_86 : decode cX6_player 86 = .ok (.iconst 1, 1) := by decide +kernel
theorem dX6_player_87 : decode cX6_player 87 = .ok (.iadd, 1) := by decide +kernel
theorem dX6_player_88 : decode cX6_player 88 = .ok (.iload_n 2, 1) := by decide +kernel
theorem dX6_player_89 : decode cX6_player 89 = .ok (.iastore, 1) := by decide +kernel
theorem dX6_player_90 : decode cX6_player 90 = .ok (.aload_n 0, 1) := by decide +kernel
theorem dX6_player_91 : decode cX6_player 91 = .ok (.getfield 7, 3) := by decide +kernel
theorem dX6_player_94 : decode cX6_player 94 = .ok (.bipush 10, 2) := by decide +kernel
theorem dX6_player_96 : decode cX6_player 96 = .ok (.dup2, 1) := by decide +kernel
theorem dX6_player_97 : decode cX6_player 97 = .ok (.iaload, 1) := by decide +kernel
theorem dX6_player_98 : decode cX6_player 98 = .ok (.iload_n 2, 1) := by decide +kernel
theorem dX6_player_99 : decode cX6_player 99 = .ok (.iadd, 1) := by decide +kernel
theorem dX6_player_100 : decode cX6_player 100 = .ok (.iastore, 1) := by decide +kernel
theorem dX6_player_101 : decode cX6_player 101 = .ok (.aload_n 0, 1) := by decide +kernel
theorem dX6_player_102 : decode cX6_player 102 = .ok (.getfield 7, 3) := by decide +kernel
theorem dX6_player_105 : decode cX6_player 105 = .ok (.iconst 4, 1) := by decide +kernel
theorem dX6_player_106 : decode cX6_player 106 = .ok (.dup2, 1) := by decide +kernel
theorem dX6_player_107 : decode cX6_player 107 = .ok (.iaload, 1) := by decide +kernel
theorem dX6_player_108 : decode cX6_player 108 = .ok (.iconst 1, 1) := by decide +kernel
theorem dX6_player_109 : decode cX6_player 109 = .ok (.iadd, 1) := by decide +kernel
theorem dX6_player_110 : decode cX6_player 110 = .ok (.iastore, 1) := by decide +kernel
theorem dX6_player_111 : decode cX6_player 111 = .ok (.aload_n 0, 1) := by decide +kernel
theorem dX6_player_112 : decode cX6_player 112 = .ok (.iload_n 3, 1) := by decide +kernel
theorem dX6_player_113 : decode cX6_player 113 = .ok (.invokevirtual 53, 3) := by decide +kernel
theorem dX6_player_116 : decode cX6_player 116 = .ok (.ireturn, 1) := by decide +kernel
theorem dX6_set_0 : decode cX6_set 0 = .ok (.aload_n 0, 1) := by decide +kernel
theorem dX6_set_1 : decode cX6_set 1 = .ok (.iconst 0, 1) := by decide +kernel
theorem dX6_set_2 : decode cX6_set 2 = .ok (.putfield 35, 3) := by decide +kernel
theorem dX6_set_5 : decode cX6_set 5 = .ok (.iload_n 1, 1) := by decide +kernel
theorem dX6_set_6 : decode cX6_set 6 = .ok (.iconst 0, 1) := by decide +kernel
theorem dX6_set_7 : decode cX6_set 7 = .ok (.iconst 3, 1) := by decide +kernel
theorem dX6_set_8 : decode cX6_set 8 = .ok (.invokestatic 39, 3) := by decide +kernel
theorem dX6_set_11 : decode cX6_set 11 = .ok (.ifCond .ne 9, 3) := by decide +kernel
theorem dX6_set_14 : decode cX6_set 14 = .ok (.aload_n 0, 1) := by decide +kernel
theorem dX6_set_15 : decode cX6_set 15 = .ok (.iconst 1, 1) := by decide +kernel
theorem dX6_set_16 : decode cX6_set 16 = .ok (.invokevirtual 46, 3) := by decide +kernel
theorem dX6_set_19 : decode cX6_set 19 = .ok (.ireturn, 1) := by decide +kernel
theorem dX6_set_20 : decode cX6_set 20 = .ok (.iload_n 2, 1) := by decide +kernel
theorem dX6_set_21 : decode cX6_set 21 = .ok (.iload_n 1, 1) := by decide +kernel
theorem dX6_set_22 : decode cX6_set 22 = .ok (.ifCond .ne 7, 3) := by decide +kernel
theorem dX6_set_25 : decode cX6_set 25 = .ok (.iconst 1, 1) := by decide +kernel
theorem dX6_set_26 : decode cX6_set 26 = .ok (.goto 4, 3) := by decide +kernel
theorem dX6_set_29 : decode cX6_set 29 = .ok (.iconst 0, 1) := by decide +kernel
theorem dX6_set_30 : decode cX6_set 30 = .ok (.iload_n 1, 1) := by decide +kernel
theorem dX6_set_31 : decode cX6_set 31 = .ok (.ifCond .eq 8, 3) := by decide +kernel
theorem dX6_set_34 : decode cX6_set 34 = .ok (.iload_n 1, 1) := by decide +kernel
theorem dX6_set_35 : decode cX6_set 35 = .ok (.iconst 2, 1) := by decide +kernel
theorem dX6_set_36 : decode cX6_set 36 = .ok (.if_icmp .ne 8, 3) := by decide +kernel
theorem dX6_set_39 : decode cX6_set 39 = .ok (.bipush 20, 2) := by decide +kernel
theorem dX6_set_41 : decode cX6_set 41 = .ok (.goto 5, 3) := by decide +kernel
theorem dX6_set_44 : decode cX6_set 44 = .ok (.bipush 9, 2) := by decide +kernel
theorem dX6_set_46 : decode cX6_set 46 = .ok (.invokestatic 39, 3) := by decide +kernel
theorem dX6_set_49 : decode cX6_set 49 = .ok (.ifCond .ne 9, 3) := by decide +kernel
theorem dX6_set_52 : decode cX6_set 52 = .ok (.aload_n 0, 1) := by decide +kernel
theorem dX6_set_53 : decode cX6_set 53 = .ok (.iconst 2, 1) := by decide +kernel
theorem dX6_set_54 : decode cX6_set 54 = .ok (.invokevirtual 46, 3) := by decide +kernel
theorem dX6_set_57 : decode cX6_set 57 = .ok (.ireturn, 1) := by decide +kernel
theorem dX6_set_58 : decode cX6_set 58 = .ok (.aload_n 0, 1) := by decide +kernel
theorem dX6_set_59 : decode cX6_set 59 = .ok (.invokevirtual 50, 3) := by decide +kernel
theorem dX6_set_62 : decode cX6_set 62 = .ok (.aload_n 0, 1) := by decide +kernel
theorem dX6_set_63 : decode cX6_set 63 = .ok (.getfield 7, 3) := by decide +kernel
theorem dX6_set_66 : decode cX6_set 66 = .ok (.iload_n 1, 1) := by decide +kernel
theorem dX6_set_67 : decode cX6_set 67 = .ok (.iaload, 1) := by decide +kernel
theorem dX6_set_68 : decode cX6_set 68 = .ok (.istore_n 3, 1) := by decide +kernel
theorem dX6_set_69 : decode cX6_set 69 = .ok (.aload_n 0, 1) := by decide +kernel
theorem dX6_set_70 : decode cX6_set 70 = .ok (.getfield 7, 3) := by decide +kernel
theorem dX6_set_73 : decode cX6_set 73 = .ok (.iload_n 1, 1) := by decide +kernel
theorem dX6_set_74 : decode cX6_set 74 = .ok (.iload_n 2, 1) := by decide +kernel
theorem dX6_set_75 : decode cX6_set 75 = .ok (.iastore, 1) := by decide +kernel
theorem dX6_set_76 : decode cX6_set 76 = .ok (.aload_n 0, 1) := by decide +kernel
theorem dX6_set_77 : decode cX6_set 77 = .ok (.iload_n 3, 1) := by decide +kernel
theorem dX6_set_78 : decode cX6_set 78 = .ok (.invokevirtual 53, 3) := by decide +kernel
theorem dX6_set_81 : decode cX6_set 81 = .ok (.ireturn, 1) := by decide +kernel
theorem dX6_rest_0 : decode cX6_rest 0 = .ok (.aload_n 0, 1) := by decide +kernel
theorem dX6_rest_1 : decode cX6_rest 1 = .ok (.iconst 0, 1) := by decide +kernel
theorem dX6_rest_2 : decode cX6_rest 2 = .ok (.putfield 35, 3) := by decide +kernel
theorem dX6_rest_5 : decode cX6_rest 5 = .ok (.aload_n 0, 1) := by decide +kernel
theorem dX6_rest_6 : decode cX6_rest 6 = .ok (.invokevirtual 112, 3) := by decide +kernel
theorem dX6_rest_9 : decode cX6_rest 9 = .ok (.ifCond .eq 9, 3) := by decide +kernel
theorem dX6_rest_12 : decode cX6_rest 12 = .ok (.aload_n 0, 1) := by decide +kernel
theorem dX6_rest_13 : decode cX6_rest 13 = .ok (.iconst 1, 1) := by decide +kernel
theorem dX6_rest_14 : decode cX6_rest 14 = .ok (.invokevirtual 46, 3) := by decide +kernel
theorem dX6_rest_17 : decode cX6_rest 17 = .ok (.ireturn, 1) := by decide +kernel
theorem dX6_rest_18 : decode cX6_rest 18 = .ok (.aload_n 0, 1) := by decide +kernel
theorem dX6_rest_19 : decode cX6_rest 19 = .ok (.invokevirtual 50, 3) := by decide +kernel
theorem dX6_rest_22 : decode cX6_rest 22 = .ok (.aload_n 0, 1) := by decide +kernel
theorem dX6_rest_23 : decode cX6_rest 23 = .ok (.aload_n 0, 1) := by decide +kernel
theorem dX6_rest_24 : decode cX6_rest 24 = .ok (.invokevirtual 116, 3) := by decide +kernel
theorem dX6_rest_27 : decode cX6_rest 27 = .ok (.invokevirtual 53, 3) := by decide +kernel
theorem dX6_rest_30 : decode cX6_rest 30 = .ok (.ireturn, 1) := by decide +kernel
theorem dX6_stride_0 : decode cX6_stride 0 = .ok (.aload_n 0, 1) := by decide +kernel
theorem dX6_stride_1 : decode cX6_stride 1 = .ok (.iconst 0, 1) := by decide +kernel
theorem dX6_stride_2 : decode cX6_stride 2 = .ok (.putfield 35, 3) := by decide +kernel
theorem dX6_stride_5 : decode cX6_stride 5 = .ok (.iload_n 1, 1) := by decide +kernel
theorem dX6_stride_6 : decode cX6_stride 6 = .ok (.iconst 0, 1) := by decide +kernel
theorem dX6_stride_7 : decode cX6_stride 7 = .ok (.bipush 9, 2) := by decide +kernel
theorem dX6_stride_9 : decode cX6_stride 9 = .ok (.invokestatic 39, 3) := by decide +kernel
theorem dX6_stride_12 : decode cX6_stride 12 = .ok (.ifCond .ne 9, 3) := by decide +kernel
theorem dX6_stride_15 : decode cX6_stride 15 = .ok (.aload_n 0, 1) := by decide +kernel
theorem dX6_stride_16 : decode cX6_stride 16 = .ok (.iconst 1, 1) := by decide +kernel
theorem dX6_stride_17 : decode cX6_stride 17 = .ok (.invokevirtual 46, 3) := by decide +kernel
theorem dX6_stride_20 : decode cX6_stride 20 = .ok (.ireturn, 1) := by decide +kernel
theorem dX6_stride_21 : decode cX6_stride 21 = .ok (.aload_n 0, 1) := by decide +kernel
theorem dX6_stride_22 : decode cX6_stride 22 = .ok (.invokevirtual 112, 3) := by decide +kernel
theorem dX6_stride_25 : decode cX6_stride 25 = .ok (.ifCond .eq 9, 3) := by decide +kernel
theorem dX6_stride_28 : decode cX6_stride 28 = .ok (.aload_n 0, 1) := by decide +kernel
theorem dX6_stride_29 : decode cX6_stride 29 = .ok (.iconst 2, 1) := by decide +kernel
theorem dX6_stride_30 : decode cX6_stride 30 = .ok (.invokevirtual 46, 3) := by decide +kernel
theorem dX6_stride_33 : decode cX6_stride 33 = .ok (.ireturn, 1) := by decide +kernel
theorem dX6_stride_34 : decode cX6_stride 34 = .ok (.aload_n 0, 1) := by decide +kernel
theorem dX6_stride_35 : decode cX6_stride 35 = .ok (.invokevirtual 50, 3) := by decide +kernel
theorem dX6_stride_38 : decode cX6_stride 38 = .ok (.aload_n 0, 1) := by decide +kernel
theorem dX6_stride_39 : decode cX6_stride 39 = .ok (.aload_n 0, 1) := by decide +kernel
theorem dX6_stride_40 : decode cX6_stride 40 = .ok (.iload_n 1, 1) := by decide +kernel
theorem dX6_stride_41 : decode cX6_stride 41 = .ok (.invokevirtual 119, 3) := by decide +kernel
theorem dX6_stride_44 : decode cX6_stride 44 = .ok (.invokevirtual 53, 3) := by decide +kernel
theorem dX6_stride_47 : decode cX6_stride 47 = .ok (.ireturn, 1) := by decide +kernel
theorem dX6_turnOver_0 : decode cX6_turnOver 0 = .ok (.aload_n 0, 1) := by decide +kernel
theorem dX6_turnOver_1 : decode cX6_turnOver 1 = .ok (.iconst 0, 1) := by decide +kernel
theorem dX6_turnOver_2 : decode cX6_turnOver 2 = .ok (.putfield 35, 3) := by decide +kernel
theorem dX6_turnOver_5 : decode cX6_turnOver 5 = .ok (.aload_n 0, 1) := by decide +kernel
theorem dX6_turnOver_6 : decode cX6_turnOver 6 = .ok (.invokevirtual 112, 3) := by decide +kernel
theorem dX6_turnOver_9 : decode cX6_turnOver 9 = .ok (.ifCond .eq 9, 3) := by decide +kernel
theorem dX6_turnOver_12 : decode cX6_turnOver 12 = .ok (.aload_n 0, 1) := by decide +kernel
theorem dX6_turnOver_13 : decode cX6_turnOver 13 = .ok (.iconst 1, 1) := by decide +kernel
theorem dX6_turnOver_14 : decode cX6_turnOver 14 = .ok (.invokevirtual 46, 3) := by decide +kernel
theorem dX6_turnOver_17 : decode cX6_turnOver 17 = .ok (.ireturn, 1) := by decide +kernel
theorem dX6_turnOver_18 : decode cX6_turnOver 18 = .ok (.aload_n 0, 1) := by decide +kernel
theorem dX6_turnOver_19 : decode cX6_turnOver 19 = .ok (.invokevirtual 50, 3) := by decide +kernel
theorem dX6_turnOver_22 : decode cX6_turnOver 22 = .ok (.aload_n 0, 1) := by decide +kernel
theorem dX6_turnOver_23 : decode cX6_turnOver 23 = .ok (.aload_n 0, 1) := by decide +kernel
theorem dX6_turnOver_24 : decode cX6_turnOver 24 = .ok (.invokevirtual 122, 3) := by decide +kernel
theorem dX6_turnOver_27 : decode cX6_turnOver 27 = .ok (.invokevirtual 53, 3) := by decide +kernel
theorem dX6_turnOver_30 : decode cX6_turnOver 30 = .ok (.ireturn, 1) := by decide +kernel
theorem dX6_tag_0 : decode cX6_tag 0 = .ok (.aload_n 0, 1) := by decide +kernel
theorem dX6_tag_1 : decode cX6_tag 1 = .ok (.iconst 0, 1) := by decide +kernel
theorem dX6_tag_2 : decode cX6_tag 2 = .ok (.putfield 35, 3) := by decide +kernel
theorem dX6_tag_5 : decode cX6_tag 5 = .ok (.aload_n 0, 1) := by decide +kernel
theorem dX6_tag_6 : decode cX6_tag 6 = .ok (.iload_n 1, 1) := by decide +kernel
theorem dX6_tag_7 : decode cX6_tag 7 = .ok (.invokevirtual 125, 3) := by decide +kernel
theorem dX6_tag_10 : decode cX6_tag 10 = .ok (.ifCond .ne 9, 3) := by decide +kernel
theorem dX6_tag_13 : decode cX6_tag 13 = .ok (.aload_n 0, 1) := by decide +kernel
theorem dX6_tag_14 : decode cX6_tag 14 = .ok (.iconst 1, 1) := by decide +kernel
theorem dX6_tag_15 : decode cX6_tag 15 = .ok (.invokevirtual 46, 3) := by decide +kernel
theorem dX6_tag_18 : decode cX6_tag 18 = .ok (.ireturn, 1) := by decide +kernel
theorem dX6_tag_19 : decode cX6_tag 19 = .ok (.aload_n 0, 1) := by decide +kernel
theorem dX6_tag_20 : decode cX6_tag 20 = .ok (.invokevirtual 112, 3) := by decide +kernel
theorem dX6_tag_23 : decode cX6_tag 23 = .ok (.ifCond .eq 9, 3) := by decide +kernel
theorem dX6_tag_26 : decode cX6_tag 26 = .ok (.aload_n 0, 1) := by decide +kernel
theorem dX6_tag_27 : decode cX6_tag 27 = .ok (.iconst 2, 1) := by decide +kernel
theorem dX6_tag_28 : decode cX6_tag 28 = .ok (.invokevirtual 46, 3) := by decide +kernel
theorem dX6_tag_31 : decode cX6_tag 31 = .ok (.ireturn, 1) := by decide +kernel
theorem dX6_tag_32 : decode cX6_tag 32 = .ok (.aload_n 0, 1) := by decide +kernel
theorem dX6_tag_33 : decode cX6_tag 33 = .ok (.invokevirtual 50, 3) := by decide +kernel
theorem dX6_tag_36 : decode cX6_tag 36 = .ok (.aload_n 0, 1) := by decide +kernel
theorem dX6_tag_37 : decode cX6_tag 37 = .ok (.aload_n 0, 1) := by decide +kernel
theorem dX6_tag_38 : decode cX6_tag 38 = .ok (.iload_n 1, 1) := by decide +kernel
theorem dX6_tag_39 : decode cX6_tag 39 = .ok (.invokevirtual 129, 3) := by decide +kernel
theorem dX6_tag_42 : decode cX6_tag 42 = .ok (.invokevirtual 53, 3) := by decide +kernel
theorem dX6_tag_45 : decode cX6_tag 45 = .ok (.ireturn, 1) := by decide +kernel
theorem dX6_append_0 : decode cX6_append 0 = .ok (.aload_n 0, 1) := by decide +kernel
theorem dX6_append_1 : decode cX6_append 1 = .ok (.iconst 0, 1) := by decide +kernel
theorem dX6_append_2 : decode cX6_append 2 = .ok (.putfield 35, 3) := by decide +kernel
theorem dX6_append_5 : decode cX6_append 5 = .ok (.iload_n 1, 1) := by decide +kernel
theorem dX6_append_6 : decode cX6_append 6 = .ok (.bipush 33, 2) := by decide +kernel
theorem dX6_append_8 : decode cX6_append 8 = .ok (.bipush 126, 2) := by decide +kernel
theorem dX6_append_10 : decode cX6_append 10 = .ok (.invokestatic 39, 3) := by decide +kernel
theorem dX6_append_13 : decode cX6_append 13 = .ok (.ifCond .ne 9, 3) := by decide +kernel
theorem dX6_append_16 : decode cX6_append 16 = .ok (.aload_n 0, 1) := by decide +kernel
theorem dX6_append_17 : decode cX6_append 17 = .ok (.iconst 1, 1) := by decide +kernel
theorem dX6_append_18 : decode cX6_append 18 = .ok (.invokevirtual 46, 3) := by decide +kernel
theorem dX6_append_21 : decode cX6_append 21 = .ok (.ireturn, 1) := by decide +kernel
theorem dX6_append_22 : decode cX6_append 22 = .ok (.aload_n 0, 1) := by decide +kernel
theorem dX6_append_23 : decode cX6_append 23 = .ok (.getfield 132, 3) := by decide +kernel
theorem dX6_append_26 : decode cX6_append 26 = .ok (.bipush 60, 2) := by decide +kernel
theorem dX6_append_28 : decode cX6_append 28 = .ok (.if_icmp .ne 9, 3) := by decide +kernel
theorem dX6_append_31 : decode cX6_append 31 = .ok (.aload_n 0, 1) := by decide +kernel
theorem dX6_append_32 : decode cX6_append 32 = .ok (.iconst 2, 1) := by decide +kernel
theorem dX6_append_33 : decode cX6_append 33 = .ok (.invokevirtual 46, 3) := by decide +kernel
theorem dX6_append_36 : decode cX6_append 36 = .ok (.ireturn, 1) := by decide +kernel
theorem dX6_append_37 : decode cX6_append 37 = .ok (.aload_n 0, 1) := by decide +kernel
theorem dX6_append_38 : decode cX6_append 38 = .ok (.getfield 26, 3) := by decide +kernel
theorem dX6_append_41 : decode cX6_append 41 = .ok (.aload_n 0, 1) := by decide +kernel
theorem dX6_append_42 : decode cX6_append 42 = .ok (.getfield 132, 3) := by decide +kernel
theorem dX6_append_45 : decode cX6_append 45 = .ok (.iload_n 1, 1) := by decide +kernel
theorem dX6_append_46 : decode cX6_append 46 = .ok (.iastore, 1) := by decide +kernel
theorem dX6_append_47 : decode cX6_append 47 = .ok (.aload_n 0, 1) := by decide +kernel
theorem dX6_append_48 : decode cX6_append 48 = .ok (.dup, 1) := by decide +kernel
theorem dX6_append_49 : decode cX6_append 49 = .ok (.getfield 132, 3) := by decide +kernel
theorem dX6_append_52 : decode cX6_append 52 = .ok (.iconst 1, 1) := by decide +kernel
theorem dX6_append_53 : decode cX6_append 53 = .ok (.iadd, 1) := by decide +kernel
theorem dX6_append_54 : decode cX6_append 54 = .ok (.putfield 132, 3) := by decide +kernel
theorem dX6_append_57 : decode cX6_append 57 = .ok (.aload_n 0, 1) := by decide +kernel
theorem dX6_append_58 : decode cX6_append 58 = .ok (.getfield 132, 3) := by decide +kernel
theorem dX6_append_61 : decode cX6_append 61 = .ok (.ireturn, 1) := by decide +kernel
theorem dX6_clearBuffer_0 : decode cX6_clearBuffer 0 = .ok (.aload_n 0, 1) := by decide +kernel
theorem dX6_clearBuffer_1 : decode cX6_clearBuffer 1 = .ok (.iconst 0, 1) := by decide +kernel
theorem dX6_clearBuffer_2 : decode cX6_clearBuffer 2 = .ok (.putfield 35, 3) := by decide +kernel
theorem dX6_clearBuffer_5 : decode cX6_clearBuffer 5 = .ok (.aload_n 0, 1) := by decide +kernel
theorem dX6_clearBuffer_6 : decode cX6_clearBuffer 6 = .ok (.getfield 132, 3) := by decide +kernel
theorem dX6_clearBuffer_9 : decode cX6_clearBuffer 9 = .ok (.istore_n 1, 1) := by decide +kernel
theorem dX6_clearBuffer_10 : decode cX6_clearBuffer 10 = .ok (.aload_n 0, 1) := by decide +kernel
theorem dX6_clearBuffer_11 : decode cX6_clearBuffer 11 = .ok (.iconst 0, 1) := by decide +kernel
theorem dX6_clearBuffer_12 : decode cX6_clearBuffer 12 = .ok (.putfield 132, 3) := by decide +kernel
theorem dX6_clearBuffer_15 : decode cX6_clearBuffer 15 = .ok (.iload_n 1, 1) := by decide +kernel
theorem dX6_clearBuffer_16 : decode cX6_clearBuffer 16 = .ok (.ireturn, 1) := by decide +kernel
theorem dX6_codeAt_0 : decode cX6_codeAt 0 = .ok (.iload_n 1, 1) := by decide +kernel
theorem dX6_codeAt_1 : decode cX6_codeAt 1 = .ok (.aload_n 0, 1) := by decide +kernel
theorem dX6_codeAt_2 : decode cX6_codeAt 2 = .ok (.getfield 132, 3) := by decide +kernel
theorem dX6_codeAt_5 : decode cX6_codeAt 5 = .ok (.if_icmp .ge 12, 3) := by decide +kernel
theorem dX6_codeAt_8 : decode cX6_codeAt 8 = .ok (.aload_n 0, 1) := by decide +kernel
theorem dX6_codeAt_9 : decode cX6_codeAt 9 = .ok (.getfield 26, 3) := by decide +kernel
theorem dX6_codeAt_12 : decode cX6_codeAt 12 = .ok (.iload_n 1, 1) := by decide +kernel
theorem dX6_codeAt_13 : decode cX6_codeAt 13 = .ok (.iaload, 1) := by decide +kernel
theorem dX6_codeAt_14 : decode cX6_codeAt 14 = .ok (.goto 4, 3) := by decide +kernel
theorem dX6_codeAt_17 : decode cX6_codeAt 17 = .ok (.iconst 0, 1) := by decide +kernel
theorem dX6_codeAt_18 : decode cX6_codeAt 18 = .ok (.ireturn, 1) := by decide +kernel
theorem dX6_moveAt_0 : decode cX6_moveAt 0 = .ok (.aload_n 0, 1) := by decide +kernel
theorem dX6_moveAt_1 : decode cX6_moveAt 1 = .ok (.iload_n 1, 1) := by decide +kernel
theorem dX6_moveAt_2 : decode cX6_moveAt 2 = .ok (.invokevirtual 135, 3) := by decide +kernel
theorem dX6_moveAt_5 : decode cX6_moveAt 5 = .ok (.istore_n 2, 1) := by decide +kernel
theorem dX6_moveAt_6 : decode cX6_moveAt 6 = .ok (.iload_n 2, 1) := by decide +kernel
theorem dX6_moveAt_7 : decode cX6_moveAt 7 = .ok (.bipush 119, 2) := by decide +kernel
theorem dX6_moveAt_9 : decode cX6_moveAt 9 = .ok (.if_icmp .eq 9, 3) := by decide +kernel
theorem dX6_moveAt_12 : decode cX6_moveAt 12 = .ok (.iload_n 2, 1) := by decide +kernel
theorem dX6_moveAt_13 : decode cX6_moveAt 13 = .ok (.bipush 111, 2) := by decide +kernel
theorem dX6_moveAt_15 : decode cX6_moveAt 15 = .ok (.if_icmp .ne 5, 3) := by decide +kernel
theorem dX6_moveAt_18 : decode cX6_moveAt 18 = .ok (.iconst 1, 1) := by decide +kernel
theorem dX6_moveAt_19 : decode cX6_moveAt 19 = .ok (.ireturn, 1) := by decide +kernel
theorem dX6_moveAt_20 : decode cX6_moveAt 20 = .ok (.iload_n 2, 1) := by decide +kernel
theorem dX6_moveAt_21 : decode cX6_moveAt 21 = .ok (.bipush 115, 2) := by decide +kernel
theorem dX6_moveAt_23 : decode cX6_moveAt 23 = .ok (.if_icmp .eq 12, 3) := by decide +kernel
theorem dX6_moveAt_26 : decode cX6_moveAt 26 = .ok (.iload_n 2, 1) := by decide +kernel
theorem dX6_moveAt_27 : decode cX6_moveAt 27 = .ok (.bipush 116, 2) := by decide +kernel
theorem dX6_moveAt_29 : decode cX6_moveAt 29 = .ok (.if_icmp .eq 6, 3) := by decide +kernel
theorem dX6_moveAt_32 : decode cX6_moveAt 32 = .ok (.bipush (-10), 2) := by decide +kernel
theorem dX6_moveAt_34 : decode cX6_moveAt 34 = .ok (.ireturn, 1) := by decide +kernel
theorem dX6_moveAt_35 : decode cX6_moveAt 35 = .ok (.aload_n 0, 1) := by decide +kernel
theorem dX6_moveAt_36 : decode cX6_moveAt 36 = .ok (.iload_n 1, 1) := by decide +kernel
theorem dX6_moveAt_37 : decode cX6_moveAt 37 = .ok (.iconst 1, 1) := by decide +kernel
theorem dX6_moveAt_38 : decode cX6_moveAt 38 = .ok (.iadd, 1) := by decide +kernel
theorem dX6_moveAt_39 : decode cX6_moveAt 39 = .ok (.invokevirtual 135, 3) := by decide +kernel
theorem dX6_moveAt_42 : decode cX6_moveAt 42 = .ok (.bipush 48, 2) := by decide +kernel
theorem dX6_moveAt_44 : decode cX6_moveAt 44 = .ok (.iload_n 2, 1) := by decide +kernel
theorem dX6_moveAt_45 : decode cX6_moveAt 45 = .ok (.bipush 115, 2) := by decide +kernel
theorem dX6_moveAt_47 : decode cX6_moveAt 47 = .ok (.if_icmp .ne 8, 3) := by decide +kernel
theorem dX6_moveAt_50 : decode cX6_moveAt 50 = .ok (.bipush 57, 2) := by decide +kernel
theorem dX6_moveAt_52 : decode cX6_moveAt 52 = .ok (.goto 5, 3) := by decide +kernel
theorem dX6_moveAt_55 : decode cX6_moveAt 55 = .ok (.bipush 51, 2) := by decide +kernel
theorem dX6_moveAt_57 : decode cX6_moveAt 57 = .ok (.invokestatic 39, 3) := by decide +kernel
theorem dX6_moveAt_60 : decode cX6_moveAt 60 = .ok (.ifCond .eq 7, 3) := by decide +kernel
theorem dX6_moveAt_63 : decode cX6_moveAt 63 = .ok (.iconst 2, 1) := by decide +kernel
theorem dX6_moveAt_64 : decode cX6_moveAt 64 = .ok (.goto 5, 3) := by decide +kernel
theorem dX6_moveAt_67 : decode cX6_moveAt 67 = .ok (.bipush (-9), 2) := by decide +kernel
theorem dX6_moveAt_69 : decode cX6_moveAt 69 = .ok (.ireturn, 1) := by decide +kernel
theorem dX6_firstError_0 : decode cX6_firstError 0 = .ok (.aload_n 0, 1) := by decide +kernel
theorem dX6_firstError_1 : decode cX6_firstError 1 = .ok (.iconst 0, 1) := by decide +kernel
theorem dX6_firstError_2 : decode cX6_firstError 2 = .ok (.putfield 35, 3) := by decide +kernel
theorem dX6_firstError_5 : decode cX6_firstError 5 = .ok (.aload_n 0, 1) := by decide +kernel
theorem dX6_firstError_6 : decode cX6_firstError 6 = .ok (.invokevirtual 138, 3) := by decide +kernel
theorem dX6_firstError_9 : decode cX6_firstError 9 = .ok (.ireturn, 1) := by decide +kernel
theorem dX6_error_0 : decode cX6_error 0 = .ok (.iconst 0, 1) := by decide +kernel
theorem dX6_error_1 : decode cX6_error 1 = .ok (.istore_n 1, 1) := by decide +kernel
theorem dX6_error_2 : decode cX6_error 2 = .ok (.iload_n 1, 1) := by decide +kernel
theorem dX6_error_3 : decode cX6_error 3 = .ok (.aload_n 0, 1) := by decide +kernel
theorem dX6_error_4 : decode cX6_error 4 = .ok (.getfield 132, 3) := by decide +kernel
theorem dX6_error_7 : decode cX6_error 7 = .ok (.if_icmp .ge 27, 3) := by decide +kernel
theorem dX6_error_10 : decode cX6_error 10 = .ok (.aload_n 0, 1) := by decide +kernel
theorem dX6_error_11 : decode cX6_error 11 = .ok (.iload_n 1, 1) := by decide +kernel
theorem dX6_error_12 : decode cX6_error 12 = .ok (.invokevirtual 141, 3) := by decide +kernel
theorem dX6_error_15 : decode cX6_error 15 = .ok (.istore_n 2, 1) := by decide +kernel
theorem dX6_error_16 : decode cX6_error 16 = .ok (.iload_n 2, 1) := by decide +kernel
theorem dX6_error_17 : decode cX6_error 17 = .ok (.ifCond .ge 10, 3) := by decide +kernel
theorem dX6_error_20 : decode cX6_error 20 = .ok (.iload_n 1, 1) := by decide +kernel
theorem dX6_error_21 : decode cX6_error 21 = .ok (.iload_n 2, 1) := by decide +kernel
theorem dX6_error_22 : decode cX6_error 22 = .ok (.iadd, 1) := by decide +kernel
theorem dX6_error_23 : decode cX6_error 23 = .ok (.bipush 10, 2) := by decide +kernel
theorem dX6_error_25 : decode cX6_error 25 = .ok (.iadd, 1) := by decide +kernel
theorem dX6_error_26 : decode cX6_error 26 = .ok (.ireturn, 1) := by decide +kernel
theorem dX6_error_27 : decode cX6_error 27 = .ok (.iload_n 1, 1) := by decide +kernel
theorem dX6_error_28 : decode cX6_error 28 = .ok (.iload_n 2, 1) := by decide +kernel
theorem dX6_error_29 : decode cX6_error 29 = .ok (.iadd, 1) := by decide +kernel
theorem dX6_error_30 : decode cX6_error 30 = .ok (.istore_n 1, 1) := by decide +kernel
theorem dX6_error_31 : decode cX6_error 31 = .ok (.goto (-29), 3) := by decide +kernel
theorem dX6_error_34 : decode cX6_error 34 = .ok (.aload_n 0, 1) := by decide +kernel
theorem dX6_error_35 : decode cX6_error 35 = .ok (.getfield 132, 3) := by decide +kernel
theorem dX6_error_38 : decode cX6_error 38 = .ok (.ireturn, 1) := by decide +kernel
theorem dX6_isGame_0 : decode cX6_isGame 0 = .ok (.iconst 0, 1) := by decide +kernel
theorem dX6_isGame_1 : decode cX6_isGame 1 = .ok (.istore_n 1, 1) := by decide +kernel
theorem dX6_isGame_2 : decode cX6_isGame 2 = .ok (.iconst 1, 1) := by decide +kernel
theorem dX6_isGame_3 : decode cX6_isGame 3 = .ok (.istore_n 2, 1) := by decide +kernel
theorem dX6_isGame_4 : decode cX6_isGame 4 = .ok (.iload_n 1, 1) := by decide +kernel
theorem dX6_isGame_5 : decode cX6_isGame 5 = .ok (.aload_n 0, 1) := by decide +kernel
theorem dX6_isGame_6 : decode cX6_isGame 6 = .ok (.getfield 132, 3) := by decide +kernel
theorem dX6_isGame_9 : decode cX6_isGame 9 = .ok (.if_icmp .ge 20, 3) := by decide +kernel
theorem dX6_isGame_12 : decode cX6_isGame 12 = .ok (.iload_n 2, 1) := by decide +kernel
theorem dX6_isGame_13 : decode cX6_isGame 13 = .ok (.ifCond .le 16, 3) := by decide +kernel
theorem dX6_isGame_16 : decode cX6_isGame 16 = .ok (.aload_n 0, 1) := by decide +kernel
theorem dX6_isGame_17 : decode cX6_isGame 17 = .ok (.iload_n 1, 1) := by decide +kernel
theorem dX6_isGame_18 : decode cX6_isGame 18 = .ok (.invokevirtual 141, 3) := by decide +kernel
theorem dX6_isGame_21 : decode cX6_isGame 21 = .ok (.istore_n 2, 1) := by decide +kernel
theorem dX6_isGame_22 : decode cX6_isGame 22 = .ok (.iload_n 1, 1) := by decide +kernel
theorem dX6_isGame_23 : decode cX6_isGame 23 = .ok (.iload_n 2, 1) := by decide +kernel
theorem dX6_isGame_24 : decode cX6_isGame 24 = .ok (.iadd, 1) := by decide +kernel
theorem dX6_isGame_25 : decode cX6_isGame 25 = .ok (.istore_n 1, 1) := by decide +kernel
theorem dX6_isGame_26 : decode cX6_isGame 26 = .ok (.goto (-22), 3) := by decide +kernel
theorem dX6_isGame_29 : decode cX6_isGame 29 = .ok (.aload_n 0, 1) := by decide +kernel
theorem dX6_isGame_30 : decode cX6_isGame 30 = .ok (.getfield 132, 3) := by decide +kernel
theorem dX6_isGame_33 : decode cX6_isGame 33 = .ok (.ifCond .le 19, 3) := by decide +kernel
theorem dX6_isGame_36 : decode cX6_isGame 36 = .ok (.iload_n 2, 1) := by decide +kernel
theorem dX6_isGame_37 : decode cX6_isGame 37 = .ok (.ifCond .le 15, 3) := by decide +kernel
theorem dX6_isGame_40 : decode cX6_isGame 40 = .ok (.iload_n 1, 1) := by decide +kernel
theorem dX6_isGame_41 : decode cX6_isGame 41 = .ok (.aload_n 0, 1) := by decide +kernel
theorem dX6_isGame_42 : decode cX6_isGame 42 = .ok (.getfield 132, 3) := by decide +kernel
theorem dX6_isGame_45 : decode cX6_isGame 45 = .ok (.if_icmp .ne 7, 3) := by decide +kernel
theorem dX6_isGame_48 : decode cX6_isGame 48 = .ok (.iconst 1, 1) := by decide +kernel
theorem dX6_isGame_49 : decode cX6_isGame 49 = .ok (.goto 4, 3) := by decide +kernel
theorem dX6_isGame_52 : decode cX6_isGame 52 = .ok (.iconst 0, 1) := by decide +kernel
theorem dX6_isGame_53 : decode cX6_isGame 53 = .ok (.ireturn, 1) := by decide +kernel
theorem dX6_does_0 : decode cX6_does 0 = .ok (.aload_n 0, 1) := by decide +kernel
theorem dX6_does_1 : decode cX6_does 1 = .ok (.getfield 26, 3) := by decide +kernel
theorem dX6_does_4 : decode cX6_does 4 = .ok (.iload_n 1, 1) := by decide +kernel
theorem dX6_does_5 : decode cX6_does 5 = .ok (.iaload, 1) := by decide +kernel
theorem dX6_does_6 : decode cX6_does 6 = .ok (.istore_n 2, 1) := by decide +kernel
theorem dX6_does_7 : decode cX6_does 7 = .ok (.aload_n 0, 1) := by decide +kernel
theorem dX6_does_8 : decode cX6_does 8 = .ok (.iload_n 1, 1) := by decide +kernel
theorem dX6_does_9 : decode cX6_does 9 = .ok (.iconst 1, 1) := by decide +kernel
theorem dX6_does_10 : decode cX6_does 10 = .ok (.iadd, 1) := by decide +kernel
theorem dX6_does_11 : decode cX6_does 11 = .ok (.invokevirtual 135, 3) := by decide +kernel
theorem dX6_does_14 : decode cX6_does 14 = .ok (.bipush 48, 2) := by decide +kernel
theorem dX6_does_16 : decode cX6_does 16 = .ok (.isub, 1) := by decide +kernel
theorem dX6_does_17 : decode cX6_does 17 = .ok (.istore_n 3, 1) := by decide +kernel
theorem dX6_does_18 : decode cX6_does 18 = .ok (.aload_n 0, 1) := by decide +kernel
theorem dX6_does_19 : decode cX6_does 19 = .ok (.invokevirtual 112, 3) := by decide +kernel
theorem dX6_does_22 : decode cX6_does 22 = .ok (.ifCond .ne 17, 3) := by decide +kernel
theorem dX6_does_25 : decode cX6_does 25 = .ok (.iload_n 2, 1) := by decide +kernel
theorem dX6_does_26 : decode cX6_does 26 = .ok (.bipush 116, 2) := by decide +kernel
theorem dX6_does_28 : decode cX6_does 28 = .ok (.if_icmp .ne 13, 3) := by decide +kernel
theorem dX6_does_31 : decode cX6_does 31 = .ok (.aload_n 0, 1) := by decide +kernel
theorem dX6_does_32 : decode cX6_does 32 = .ok (.iload_n 3, 1) := by decide +kernel
theorem dX6_does_33 : decode cX6_does 33 = .ok (.invokevirtual 125, 3) := by decide +kernel
theorem dX6_does_36 : decode cX6_does 36 = .ok (.ifCond .ne 5, 3) := by decide +kernel
theorem dX6_does_39 : decode cX6_does 39 = .ok (.iconst 0, 1) := by decide +kernel
theorem dX6_does_40 : decode cX6_does 40 = .ok (.ireturn, 1) := by decide +kernel
theorem dX6_does_41 : decode cX6_does 41 = .ok (.iload_n 2, 1) := by decide +kernel
theorem dX6_does_42 : decode cX6_does 42 = .ok (.bipush 119, 2) := by decide +kernel
theorem dX6_does_44 : decode cX6_does 44 = .ok (.if_icmp .ne 11, 3) := by decide +kernel
theorem dX6_does_47 : decode cX6_does 47 = .ok (.aload_n 0, 1) := by decide +kernel
theorem dX6_does_48 : decode cX6_does 48 = .ok (.invokevirtual 116, 3) := by decide +kernel
theorem dX6_does_51 : decode cX6_does 51 = .ok (.istore 4, 2) := by decide +kernel
theorem dX6_does_53 : decode cX6_does 53 = .ok (.iconst 1, 1) := by decide +kernel
theorem dX6_does_54 : decode cX6_does 54 = .ok (.ireturn, 1) := by decide +kernel
theorem dX6_does_55 : decode cX6_does 55 = .ok (.iload_n 2, 1) := by decide +kernel
theorem dX6_does_56 : decode cX6_does 56 = .ok (.bipush 115, 2) := by decide +kernel
theorem dX6_does_58 : decode cX6_does 58 = .ok (.if_icmp .ne 11, 3) := by decide +kernel
theorem dX6_does_61 : decode cX6_does 61 = .ok (.aload_n 0, 1) := by decide +kernel
theorem dX6_does_62 : decode cX6_does 62 = .ok (.iload_n 3, 1) := by decide +kernel
theorem dX6_does_63 : decode cX6_does 63 = .ok (.invokevirtual 119, 3) := by decide +kernel
theorem dX6_does_66 : decode cX6_does 66 = .ok (.goto 21, 3) := by decide +kernel
theorem dX6_does_69 : decode cX6_does 69 = .ok (.iload_n 2, 1) := by decide +kernel
theorem dX6_does_70 : decode cX6_does 70 = .ok (.bipush 111, 2) := by decide +kernel
theorem dX6_does_72 : decode cX6_does 72 = .ok (.if_icmp .ne 10, 3) := by decide +kernel
theorem dX6_does_75 : decode cX6_does 75 = .ok (.aload_n 0, 1) := by decide +kernel
theorem dX6_does_76 : decode cX6_does 76 = .ok (.invokevirtual 122, 3) := by decide +kernel
theorem dX6_does_79 : decode cX6_does 79 = .ok (.goto 8, 3) := by decide +kernel
theorem dX6_does_82 : decode cX6_does 82 = .ok (.aload_n 0, 1) := by decide +kernel
theorem dX6_does_83 : decode cX6_does 83 = .ok (.iload_n 3, 1) := by decide +kernel
theorem dX6_does_84 : decode cX6_does 84 = .ok (.invokevirtual 129, 3) := by decide +kernel
theorem dX6_does_87 : decode cX6_does 87 = .ok (.ifCond .ne 7, 3) := by decide +kernel
theorem dX6_does_90 : decode cX6_does 90 = .ok (.iconst 1, 1) := by decide +kernel
theorem dX6_does_91 : decode cX6_does 91 = .ok (.goto 4, 3) := by decide +kernel
theorem dX6_does_94 : decode cX6_does 94 = .ok (.iconst 0, 1) := by decide +kernel
theorem dX6_does_95 : decode cX6_does 95 = .ok (.ireturn, 1) := by decide +kernel
theorem dX6_run_0 : decode cX6_run 0 = .ok (.aload_n 0, 1) := by decide +kernel
theorem dX6_run_1 : decode cX6_run 1 = .ok (.iconst 0, 1) := by decide +kernel
theorem dX6_run_2 : decode cX6_run 2 = .ok (.putfield 35, 3) := by decide +kernel
theorem dX6_run_5 : decode cX6_run 5 = .ok (.aload_n 0, 1) := by decide +kernel
theorem dX6_run_6 : decode cX6_run 6 = .ok (.invokevirtual 144, 3) := by decide +kernel
theorem dX6_run_9 : decode cX6_run 9 = .ok (.ifCond .ne 9, 3) := by decide +kernel
theorem dX6_run_12 : decode cX6_run 12 = .ok (.aload_n 0, 1) := by decide +kernel
theorem dX6_run_13 : decode cX6_run 13 = .ok (.iconst 1, 1) := by decide +kernel
theorem dX6_run_14 : decode cX6_run 14 = .ok (.invokevirtual 46, 3) := by decide +kernel
theorem dX6_run_17 : decode cX6_run 17 = .ok (.ireturn, 1) := by decide +kernel
theorem dX6_run_18 : decode cX6_run 18 = .ok (.aload_n 0, 1) := by decide +kernel
theorem dX6_run_19 : decode cX6_run 19 = .ok (.invokevirtual 50, 3) := by decide +kernel
theorem dX6_run_22 : decode cX6_run 22 = .ok (.iconst 0, 1) := by decide +kernel
theorem dX6_run_23 : decode cX6_run 23 = .ok (.istore_n 1, 1) := by decide +kernel
theorem dX6_run_24 : decode cX6_run 24 = .ok (.iconst 0, 1) := by decide +kernel
theorem dX6_run_25 : decode cX6_run 25 = .ok (.istore_n 2, 1) := by decide +kernel
theorem dX6_run_26 : decode cX6_run 26 = .ok (.iconst 1, 1) := by decide +kernel
theorem dX6_run_27 : decode cX6_run 27 = .ok (.istore_n 3, 1) := by decide +kernel
theorem dX6_run_28 : decode cX6_run 28 = .ok (.iload_n 2, 1) := by decide +kernel
theorem dX6_run_29 : decode cX6_run 29 = .ok (.aload_n 0, 1) := by decide +kernel
theorem dX6_run_30 : decode cX6_run 30 = .ok (.getfield 132, 3) := by decide +kernel
theorem dX6_run_33 : decode cX6_run 33 = .ok (.if_icmp .ge 36, 3) := by decide +kernel
theorem dX6_run_36 : decode cX6_run 36 = .ok (.iload_n 3, 1) := by decide +kernel
theorem dX6_run_37 : decode cX6_run 37 = .ok (.ifCond .eq 32, 3) := by decide +kernel
theorem dX6_run_40 : decode cX6_run 40 = .ok (.aload_n 0, 1) := by decide +kernel
theorem dX6_run_41 : decode cX6_run 41 = .ok (.iload_n 2, 1) := by decide +kernel
theorem dX6_run_42 : decode cX6_run 42 = .ok (.invokevirtual 147, 3) := by decide +kernel
theorem dX6_run_45 : decode cX6_run 45 = .ok (.istore_n 3, 1) := by decide +kernel
theorem dX6_run_46 : decode cX6_run 46 = .ok (.iload_n 1, 1) := by decide +kernel
theorem dX6_run_47 : decode cX6_run 47 = .ok (.iload_n 3, 1) := by decide +kernel
theorem dX6_run_48 : decode cX6_run 48 = .ok (.ifCond .eq 7, 3) := by decide +kernel
theorem dX6_run_51 : decode cX6_run 51 = .ok (.iconst 1, 1) := by decide +kernel
theorem dX6_run_52 : decode cX6_run 52 = .ok (.goto 4, 3) := by decide +kernel
theorem dX6_run_55 : decode cX6_run 55 = .ok (.iconst 0, 1) := by decide +kernel
theorem dX6_run_56 : decode cX6_run 56 = .ok (.iadd, 1) := by decide +kernel
theorem dX6_run_57 : decode cX6_run 57 = .ok (.istore_n 1, 1) := by decide +kernel
theorem dX6_run_58 : decode cX6_run 58 = .ok (.iload_n 2, 1) := by decide +kernel
theorem dX6_run_59 : decode cX6_run 59 = .ok (.aload_n 0, 1) := by decide +kernel
theorem dX6_run_60 : decode cX6_run 60 = .ok (.iload_n 2, 1) := by decide +kernel
theorem dX6_run_61 : decode cX6_run 61 = .ok (.invokevirtual 141, 3) := by decide +kernel
theorem dX6_run_64 : decode cX6_run 64 = .ok (.iadd, 1) := by decide +kernel
theorem dX6_run_65 : decode cX6_run 65 = .ok (.istore_n 2, 1) := by decide +kernel
theorem dX6_run_66 : decode cX6_run 66 = .ok (.goto (-38), 3) := by decide +kernel
theorem dX6_run_69 : decode cX6_run 69 = .ok (.aload_n 0, 1) := by decide +kernel
theorem dX6_run_70 : decode cX6_run 70 = .ok (.iconst 0, 1) := by decide +kernel
theorem dX6_run_71 : decode cX6_run 71 = .ok (.putfield 132, 3) := by decide +kernel
theorem dX6_run_74 : decode cX6_run 74 = .ok (.aload_n 0, 1) := by decide +kernel
theorem dX6_run_75 : decode cX6_run 75 = .ok (.iload_n 1, 1) := by decide +kernel
theorem dX6_run_76 : decode cX6_run 76 = .ok (.invokevirtual 53, 3) := by decide +kernel
theorem dX6_run_79 : decode cX6_run 79 = .ok (.ireturn, 1) := by decide +kernel
theorem dX6_standing_0 : decode cX6_standing 0 = .ok (.iconst 0, 1) := by decide +kernel
theorem dX6_standing_1 : decode cX6_standing 1 = .ok (.istore_n 2, 1) := by decide +kernel
theorem dX6_standing_2 : decode cX6_standing 2 = .ok (.iconst 0, 1) := by decide +kernel
theorem dX6_standing_3 : decode cX6_standing 3 = .ok (.istore_n 3, 1) := by decide +kernel
theorem dX6_standing_4 : decode cX6_standing 4 = .ok (.iload_n 3, 1) := by decide +kernel
theorem dX6_standing_5 : decode cX6_standing 5 = .ok (.aload_n 0, 1) := by decide +kernel
theorem dX6_standing_6 : decode cX6_standing 6 = .ok (.getfield 7, 3) := by decide +kernel
theorem dX6_standing_9 : decode cX6_standing 9 = .ok (.iconst 4, 1) := by decide +kernel
theorem dX6_standing_10 : decode cX6_standing 10 = .ok (.iaload, 1) := by decide +kernel
theorem dX6_standing_11 : decode cX6_standing 11 = .ok (.if_icmp .ge 29, 3) := by decide +kernel
theorem dX6_standing_14 : decode cX6_standing 14 = .ok (.iload_n 2, 1) := by decide +kernel
theorem dX6_standing_15 : decode cX6_standing 15 = .ok (.aload_n 0, 1) := by decide +kernel
theorem dX6_standing_16 : decode cX6_standing 16 = .ok (.iload_n 3, 1) := by decide +kernel
theorem dX6_standing_17 : decode cX6_standing 17 = .ok (.iconst 0, 1) := by decide +kernel
theorem dX6_standing_18 : decode cX6_standing 18 = .ok (.invokevirtual 63, 3) := by decide +kernel
theorem dX6_standing_21 : decode cX6_standing 21 = .ok (.iload_n 1, 1) := by decide +kernel
theorem dX6_standing_22 : decode cX6_standing 22 = .ok (.if_icmp .ne 9, 3) := by decide +kernel
theorem dX6_standing_25 : decode cX6_standing 25 = .ok (.iconst 1, 1) := by decide +kernel
theorem dX6_standing_26 : decode cX6_standing 26 = .ok (.iload_n 3, 1) := by decide +kernel
theorem dX6_standing_27 : decode cX6_standing 27 = .ok (.ishl, 1) := by decide +kernel
theorem dX6_standing_28 : decode cX6_standing 28 = .ok (.goto 4, 3) := by decide +kernel
theorem dX6_standing_31 : decode cX6_standing 31 = .ok (.iconst 0, 1) := by decide +kernel
theorem dX6_standing_32 : decode cX6_standing 32 = .ok (.ior, 1) := by decide +kernel
theorem dX6_standing_33 : decode cX6_standing 33 = .ok (.istore_n 2, 1) := by decide +kernel
theorem dX6_standing_34 : decode cX6_standing 34 = .ok (.iinc 3 1, 3) := by decide +kernel
theorem dX6_standing_37 : decode cX6_standing 37 = .ok (.goto (-33), 3) := by decide +kernel
theorem dX6_standing_40 : decode cX6_standing 40 = .ok (.iload_n 2, 1) := by decide +kernel
theorem dX6_standing_41 : decode cX6_standing 41 = .ok (.ireturn, 1) := by decide +kernel
theorem dX6_towerOf_0 : decode cX6_towerOf 0 = .ok (.iload_n 2, 1) := by decide +kernel
theorem dX6_towerOf_1 : decode cX6_towerOf 1 = .ok (.ifCond .ne 15, 3) := by decide +kernel
theorem dX6_towerOf_4 : decode cX6_towerOf 4 = .ok (.aload_n 0, 1) := by decide +kernel
theorem dX6_towerOf_5 : decode cX6_towerOf 5 = .ok (.getfield 7, 3) := by decide +kernel
theorem dX6_towerOf_8 : decode cX6_towerOf 8 = .ok (.bipush 11, 2) := by decide +kernel
theorem dX6_towerOf_10 : decode cX6_towerOf 10 = .ok (.iload_n 1, 1) := by decide +kernel
theorem dX6_towerOf_11 : decode cX6_towerOf 11 = .ok (.iadd, 1) := by decide +kernel
theorem dX6_towerOf_12 : decode cX6_towerOf 12 = .ok (.iaload, 1) := by decide +kernel
theorem dX6_towerOf_13 : decode cX6_towerOf 13 = .ok (.goto 38, 3) := by decide +kernel
theorem dX6_towerOf_16 : decode cX6_towerOf 16 = .ok (.iload_n 2, 1) := by decide +kernel
theorem dX6_towerOf_17 : decode cX6_towerOf 17 = .ok (.iconst 1, 1) := by decide +kernel
theorem dX6_towerOf_18 : decode cX6_towerOf 18 = .ok (.if_icmp .ne 15, 3) := by decide +kernel
theorem dX6_towerOf_21 : decode cX6_towerOf 21 = .ok (.aload_n 0, 1) := by decide +kernel
theorem dX6_towerOf_22 : decode cX6_towerOf 22 = .ok (.getfield 7, 3) := by decide +kernel
theorem dX6_towerOf_25 : decode cX6_towerOf 25 = .ok (.bipush 21, 2) := by decide +kernel
theorem dX6_towerOf_27 : decode cX6_towerOf 27 = .ok (.iload_n 1, 1) := by decide +kernel
theorem dX6_towerOf_28 : decode cX6_towerOf 28 = .ok (.iadd, 1) := by decide +kernel
theorem dX6_towerOf_29 : decode cX6_towerOf 29 = .ok (.iaload, 1) := by decide +kernel
theorem dX6_towerOf_30 : decode cX6_towerOf 30 = .ok (.goto 21, 3) := by decide +kernel
theorem dX6_towerOf_33 : decode cX6_towerOf 33 = .ok (.iload_n 2, 1) := by decide +kernel
theorem dX6_towerOf_34 : decode cX6_towerOf 34 = .ok (.iconst 2, 1) := by decide +kernel
theorem dX6_towerOf_35 : decode cX6_towerOf 35 = .ok (.if_icmp .ne 11, 3) := by decide +kernel
theorem dX6_towerOf_38 : decode cX6_towerOf 38 = .ok (.aload_n 0, 1) := by decide +kernel
theorem dX6_towerOf_39 : decode cX6_towerOf 39 = .ok (.iload_n 1, 1) := by decide +kernel
theorem dX6_towerOf_40 : decode cX6_towerOf 40 = .ok (.invokevirtual 150, 3) := by decide +kernel
theorem dX6_towerOf_43 : decode cX6_towerOf 43 = .ok (.goto 8, 3) := by decide +kernel
theorem dX6_towerOf_46 : decode cX6_towerOf 46 = .ok (.aload_n 0, 1) := by decide +kernel
theorem dX6_towerOf_47 : decode cX6_towerOf 47 = .ok (.iload_n 1, 1) := by decide +kernel
theorem dX6_towerOf_48 : decode cX6_towerOf 48 = .ok (.invokevirtual 153, 3) := by decide +kernel
theorem dX6_towerOf_51 : decode cX6_towerOf 51 = .ok (.ireturn, 1) := by decide +kernel
theorem dX6_tower_0 : decode cX6_tower 0 = .ok (.aload_n 0, 1) := by decide +kernel
theorem dX6_tower_1 : decode cX6_tower 1 = .ok (.iconst 0, 1) := by decide +kernel
theorem dX6_tower_2 : decode cX6_tower 2 = .ok (.putfield 35, 3) := by decide +kernel
theorem dX6_tower_5 : decode cX6_tower 5 = .ok (.iload_n 1, 1) := by decide +kernel
theorem dX6_tower_6 : decode cX6_tower 6 = .ok (.iconst 0, 1) := by decide +kernel
theorem dX6_tower_7 : decode cX6_tower 7 = .ok (.bipush 9, 2) := by decide +kernel
theorem dX6_tower_9 : decode cX6_tower 9 = .ok (.invokestatic 39, 3) := by decide +kernel
theorem dX6_tower_12 : decode cX6_tower 12 = .ok (.ifCond .ne 9, 3) := by decide +kernel
theorem dX6_tower_15 : decode cX6_tower 15 = .ok (.aload_n 0, 1) := by decide +kernel
theorem dX6_tower_16 : decode cX6_tower 16 = .ok (.iconst 1, 1) := by decide +kernel
theorem dX6_tower_17 : decode cX6_tower 17 = .ok (.invokevirtual 46, 3) := by decide +kernel
theorem dX6_tower_20 : decode cX6_tower 20 = .ok (.ireturn, 1) := by decide +kernel
theorem dX6_tower_21 : decode cX6_tower 21 = .ok (.iload_n 2, 1) := by decide +kernel
theorem dX6_tower_22 : decode cX6_tower 22 = .ok (.iconst 0, 1) := by decide +kernel
theorem dX6_tower_23 : decode cX6_tower 23 = .ok (.iconst 3, 1) := by decide +kernel
theorem dX6_tower_24 : decode cX6_tower 24 = .ok (.invokestatic 39, 3) := by decide +kernel
theorem dX6_tower_27 : decode cX6_tower 27 = .ok (.ifCond .eq 12, 3) := by decide +kernel
theorem dX6_tower_30 : decode cX6_tower 30 = .ok (.aload_n 0, 1) := by decide +kernel
theorem dX6_tower_31 : decode cX6_tower 31 = .ok (.iload_n 1, 1) := by decide +kernel
theorem dX6_tower_32 : decode cX6_tower 32 = .ok (.iload_n 2, 1) := by decide +kernel
theorem dX6_tower_33 : decode cX6_tower 33 = .ok (.invokevirtual 156, 3) := by decide +kernel
theorem dX6_tower_36 : decode cX6_tower 36 = .ok (.goto 8, 3) := by decide +kernel
theorem dX6_tower_39 : decode cX6_tower 39 = .ok (.aload_n 0, 1) := by decide +kernel
theorem dX6_tower_40 : decode cX6_tower 40 = .ok (.iconst 2, 1) := by decide +kernel
theorem dX6_tower_41 : decode cX6_tower 41 = .ok (.invokevirtual 46, 3) := by decide +kernel
theorem dX6_tower_44 : decode cX6_tower 44 = .ok (.ireturn, 1) := by decide +kernel
theorem dX6_reasonOf_0 : decode cX6_reasonOf 0 = .ok (.aload_n 0, 1) := by decide +kernel
theorem dX6_reasonOf_1 : decode cX6_reasonOf 1 = .ok (.iload_n 1, 1) := by decide +kernel
theorem dX6_reasonOf_2 : decode cX6_reasonOf 2 = .ok (.invokevirtual 91, 3) := by decide +kernel
theorem dX6_reasonOf_5 : decode cX6_reasonOf 5 = .ok (.aload_n 0, 1) := by decide +kernel
theorem dX6_reasonOf_6 : decode cX6_reasonOf 6 = .ok (.iload_n 2, 1) := by decide +kernel
theorem dX6_reasonOf_7 : decode cX6_reasonOf 7 = .ok (.invokevirtual 97, 3) := by decide +kernel
theorem dX6_reasonOf_10 : decode cX6_reasonOf 10 = .ok (.ireturn, 1) := by decide +kernel
theorem dX6_strideable_0 : decode cX6_strideable 0 = .ok (.iconst 0, 1) := by decide +kernel
theorem dX6_strideable_1 : decode cX6_strideable 1 = .ok (.istore_n 2, 1) := by decide +kernel
theorem dX6_strideable_2 : decode cX6_strideable 2 = .ok (.iconst 0, 1) := by decide +kernel
theorem dX6_strideable_3 : decode cX6_strideable 3 = .ok (.istore_n 3, 1) := by decide +kernel
theorem dX6_strideable_4 : decode cX6_strideable 4 = .ok (.iload_n 3, 1) := by decide +kernel
theorem dX6_strideable_5 : decode cX6_strideable 5 = .ok (.bipush 10, 2) := by decide +kernel
theorem dX6_strideable_7 : decode cX6_strideable 7 = .ok (.if_icmp .ge 28, 3) := by decide +kernel
theorem dX6_strideable_10 : decode cX6_strideable 10 = .ok (.iload_n 2, 1) := by decide +kernel
theorem dX6_strideable_11 : decode cX6_strideable 11 = .ok (.aload_n 0, 1) := by decide +kernel
theorem dX6_strideable_12 : decode cX6_strideable 12 = .ok (.iload_n 1, 1) := by decide +kernel
theorem dX6_strideable_13 : decode cX6_strideable 13 = .ok (.iload_n 3, 1) := by decide +kernel
theorem dX6_strideable_14 : decode cX6_strideable 14 = .ok (.invokevirtual 159, 3) := by decide +kernel
theorem dX6_strideable_17 : decode cX6_strideable 17 = .ok (.ifCond .ne 9, 3) := by decide +kernel
theorem dX6_strideable_20 : decode cX6_strideable 20 = .ok (.iconst 1, 1) := by decide +kernel
theorem dX6_strideable_21 : decode cX6_strideable 21 = .ok (.iload_n 3, 1) := by decide +kernel
theorem dX6_strideable_22 : decode cX6_strideable 22 = .ok (.ishl, 1) := by decide +kernel
theorem dX6_strideable_23 : decode cX6_strideable 23 = .ok (.goto 4, 3) := by decide +kernel
theorem dX6_strideable_26 : decode cX6_strideable 26 = .ok (.iconst 0, 1) := by decide +kernel
theorem dX6_strideable_27 : decode cX6_strideable 27 = .ok (.ior, 1) := by decide +kernel
theorem dX6_strideable_28 : decode cX6_strideable 28 = .ok (.istore_n 2, 1) := by decide +kernel
theorem dX6_strideable_29 : decode cX6_strideable 29 = .ok (.iinc 3 1, 3) := by decide +kernel
theorem dX6_strideable_32 : decode cX6_strideable 32 = .ok (.goto (-28), 3) := by decide +kernel
theorem dX6_strideable_35 : decode cX6_strideable 35 = .ok (.iload_n 2, 1) := by decide +kernel
theorem dX6_strideable_36 : decode cX6_strideable 36 = .ok (.ireturn, 1) := by decide +kernel
theorem dX6_propertyOf_0 : decode cX6_propertyOf 0 = .ok (.iload_n 2, 1) := by decide +kernel
theorem dX6_propertyOf_1 : decode cX6_propertyOf 1 = .ok (.iconst 3, 1) := by decide +kernel
theorem dX6_propertyOf_2 : decode cX6_propertyOf 2 = .ok (.if_icmp .ge 12, 3) := by decide +kernel
theorem dX6_propertyOf_5 : decode cX6_propertyOf 5 = .ok (.aload_n 0, 1) := by decide +kernel
theorem dX6_propertyOf_6 : decode cX6_propertyOf 6 = .ok (.iload_n 1, 1) := by decide +kernel
theorem dX6_propertyOf_7 : decode cX6_propertyOf 7 = .ok (.iload_n 2, 1) := by decide +kernel
theorem dX6_propertyOf_8 : decode cX6_propertyOf 8 = .ok (.invokevirtual 63, 3) := by decide +kernel
theorem dX6_propertyOf_11 : decode cX6_propertyOf 11 = .ok (.goto 49, 3) := by decide +kernel
theorem dX6_propertyOf_14 : decode cX6_propertyOf 14 = .ok (.iload_n 2, 1) := by decide +kernel
theorem dX6_propertyOf_15 : decode cX6_propertyOf 15 = .ok (.iconst 3, 1) := by decide +kernel
theorem dX6_propertyOf_16 : decode cX6_propertyOf 16 = .ok (.if_icmp .ne 22, 3) := by decide +kernel
theorem dX6_propertyOf_19 : decode cX6_propertyOf 19 = .ok (.iload_n 1, 1) := by decide +kernel
theorem dX6_propertyOf_20 : decode cX6_propertyOf 20 = .ok (.aload_n 0, 1) := by decide +kernel
theorem dX6_propertyOf_21 : decode cX6_propertyOf 21 = .ok (.getfield 7, 3) := by decide +kernel
theorem dX6_propertyOf_24 : decode cX6_propertyOf 24 = .ok (.bipush 6, 2) := by decide +kernel
theorem dX6_propertyOf_26 : decode cX6_propertyOf 26 = .ok (.iaload, 1) := by decide +kernel
theorem dX6_propertyOf_27 : decode cX6_propertyOf 27 = .ok (.if_icmp .ne 7, 3) := by decide +kernel
theorem dX6_propertyOf_30 : decode cX6_propertyOf 30 = .ok (.iconst 1, 1) := by decide +kernel
theorem dX6_propertyOf_31 : decode cX6_propertyOf 31 = .ok (.goto 29, 3) := by decide +kernel
theorem dX6_propertyOf_34 : decode cX6_propertyOf 34 = .ok (.iconst 0, 1) := by decide +kernel
theorem dX6_propertyOf_35 : decode cX6_propertyOf 35 = .ok (.goto 25, 3) := by decide +kernel
theorem dX6_propertyOf_38 : decode cX6_propertyOf 38 = .ok (.iload_n 2, 1) := by decide +kernel
theorem dX6_propertyOf_39 : decode cX6_propertyOf 39 = .ok (.bipush 8, 2) := by decide +kernel
theorem dX6_propertyOf_41 : decode cX6_propertyOf 41 = .ok (.if_icmp .ge 14, 3) := by decide +kernel
theorem dX6_propertyOf_44 : decode cX6_propertyOf 44 = .ok (.aload_n 0, 1) := by decide +kernel
theorem dX6_propertyOf_45 : decode cX6_propertyOf 45 = .ok (.iload_n 1, 1) := by decide +kernel
theorem dX6_propertyOf_46 : decode cX6_propertyOf 46 = .ok (.iload_n 2, 1) := by decide +kernel
theorem dX6_propertyOf_47 : decode cX6_propertyOf 47 = .ok (.iconst 1, 1) := by decide +kernel
theorem dX6_propertyOf_48 : decode cX6_propertyOf 48 = .ok (.isub, 1) := by decide +kernel
theorem dX6_propertyOf_49 : decode cX6_propertyOf 49 = .ok (.invokevirtual 63, 3) := by decide +kernel
theorem dX6_propertyOf_52 : decode cX6_propertyOf 52 = .ok (.goto 8, 3) := by decide +kernel
theorem dX6_propertyOf_55 : decode cX6_propertyOf 55 = .ok (.aload_n 0, 1) := by decide +kernel
theorem dX6_propertyOf_56 : decode cX6_propertyOf 56 = .ok (.iload_n 1, 1) := by decide +kernel
theorem dX6_propertyOf_57 : decode cX6_propertyOf 57 = .ok (.invokevirtual 162, 3) := by decide +kernel
theorem dX6_propertyOf_60 : decode cX6_propertyOf 60 = .ok (.ireturn, 1) := by decide +kernel
theorem dX6_playerOf_0 : decode cX6_playerOf 0 = .ok (.aload_n 0, 1) := by decide +kernel
theorem dX6_playerOf_1 : decode cX6_playerOf 1 = .ok (.iconst 0, 1) := by decide +kernel
theorem dX6_playerOf_2 : decode cX6_playerOf 2 = .ok (.putfield 35, 3) := by decide +kernel
theorem dX6_playerOf_5 : decode cX6_playerOf 5 = .ok (.aload_n 0, 1) := by decide +kernel
theorem dX6_playerOf_6 : decode cX6_playerOf 6 = .ok (.iload_n 1, 1) := by decide +kernel
theorem dX6_playerOf_7 : decode cX6_playerOf 7 = .ok (.invokevirtual 125, 3) := by decide +kernel
theorem dX6_playerOf_10 : decode cX6_playerOf 10 = .ok (.ifCond .ne 9, 3) := by decide +kernel
theorem dX6_playerOf_13 : decode cX6_playerOf 13 = .ok (.aload_n 0, 1) := by decide +kernel
theorem dX6_playerOf_14 : decode cX6_playerOf 14 = .ok (.iconst 1, 1) := by decide +kernel
theorem dX6_playerOf_15 : decode cX6_playerOf 15 = .ok (.invokevirtual 46, 3) := by decide +kernel
theorem dX6_playerOf_18 : decode cX6_playerOf 18 = .ok (.ireturn, 1) := by decide +kernel
theorem dX6_playerOf_19 : decode cX6_playerOf 19 = .ok (.iload_n 2, 1) := by decide +kernel
theorem dX6_playerOf_20 : decode cX6_playerOf 20 = .ok (.iconst 0, 1) := by decide +kernel
theorem dX6_playerOf_21 : decode cX6_playerOf 21 = .ok (.bipush 8, 2) := by decide +kernel
theorem dX6_playerOf_23 : decode cX6_playerOf 23 = .ok (.invokestatic 39, 3) := by decide +kernel
theorem dX6_playerOf_26 : decode cX6_playerOf 26 = .ok (.ifCond .eq 12, 3) := by decide +kernel
theorem dX6_playerOf_29 : decode cX6_playerOf 29 = .ok (.aload_n 0, 1) := by decide +kernel
theorem dX6_playerOf_30 : decode cX6_playerOf 30 = .ok (.iload_n 1, 1) := by decide +kernel
theorem dX6_playerOf_31 : decode cX6_playerOf 31 = .ok (.iload_n 2, 1) := by decide +kernel
theorem dX6_playerOf_32 : decode cX6_playerOf 32 = .ok (.invokevirtual 165, 3) := by decide +kernel
theorem dX6_playerOf_35 : decode cX6_playerOf 35 = .ok (.goto 8, 3) := by decide +kernel
theorem dX6_playerOf_38 : decode cX6_playerOf 38 = .ok (.aload_n 0, 1) := by decide +kernel
theorem dX6_playerOf_39 : decode cX6_playerOf 39 = .ok (.iconst 2, 1) := by decide +kernel
theorem dX6_playerOf_40 : decode cX6_playerOf 40 = .ok (.invokevirtual 46, 3) := by decide +kernel
theorem dX6_playerOf_43 : decode cX6_playerOf 43 = .ok (.ireturn, 1) := by decide +kernel
theorem dX6_inGlasses_0 : decode cX6_inGlasses 0 = .ok (.iconst 0, 1) := by decide +kernel
theorem dX6_inGlasses_1 : decode cX6_inGlasses 1 = .ok (.istore_n 1, 1) := by decide +kernel
theorem dX6_inGlasses_2 : decode cX6_inGlasses 2 = .ok (.iconst 0, 1) := by decide +kernel
theorem dX6_inGlasses_3 : decode cX6_inGlasses 3 = .ok (.istore_n 2, 1) := by decide +kernel
theorem dX6_inGlasses_4 : decode cX6_inGlasses 4 = .ok (.iload_n 2, 1) := by decide +kernel
theorem dX6_inGlasses_5 : decode cX6_inGlasses 5 = .ok (.aload_n 0, 1) := by decide +kernel
theorem dX6_inGlasses_6 : decode cX6_inGlasses 6 = .ok (.getfield 7, 3) := by decide +kernel
theorem dX6_inGlasses_9 : decode cX6_inGlasses 9 = .ok (.iconst 4, 1) := by decide +kernel
theorem dX6_inGlasses_10 : decode cX6_inGlasses 10 = .ok (.iaload, 1) := by decide +kernel
theorem dX6_inGlasses_11 : decode cX6_inGlasses 11 = .ok (.if_icmp .ge 25, 3) := by decide +kernel
theorem dX6_inGlasses_14 : decode cX6_inGlasses 14 = .ok (.iload_n 1, 1) := by decide +kernel
theorem dX6_inGlasses_15 : decode cX6_inGlasses 15 = .ok (.aload_n 0, 1) := by decide +kernel
theorem dX6_inGlasses_16 : decode cX6_inGlasses 16 = .ok (.iload_n 2, 1) := by decide +kernel
theorem dX6_inGlasses_17 : decode cX6_inGlasses 17 = .ok (.iconst 1, 1) := by decide +kernel
theorem dX6_inGlasses_18 : decode cX6_inGlasses 18 = .ok (.invokevirtual 63, 3) := by decide +kernel
theorem dX6_inGlasses_21 : decode cX6_inGlasses 21 = .ok (.aload_n 0, 1) := by decide +kernel
theorem dX6_inGlasses_22 : decode cX6_inGlasses 22 = .ok (.iload_n 2, 1) := by decide +kernel
theorem dX6_inGlasses_23 : decode cX6_inGlasses 23 = .ok (.iconst 2, 1) := by decide +kernel
theorem dX6_inGlasses_24 : decode cX6_inGlasses 24 = .ok (.invokevirtual 63, 3) := by decide +kernel
theorem dX6_inGlasses_27 : decode cX6_inGlasses 27 = .ok (.iadd, 1) := by decide +kernel
theorem dX6_inGlasses_28 : decode cX6_inGlasses 28 = .ok (.iadd, 1) := by decide +kernel
theorem dX6_inGlasses_29 : decode cX6_inGlasses 29 = .ok (.istore_n 1, 1) := by decide +kernel
theorem dX6_inGlasses_30 : decode cX6_inGlasses 30 = .ok (.iinc 2 1, 3) := by decide +kernel
theorem dX6_inGlasses_33 : decode cX6_inGlasses 33 = .ok (.goto (-29), 3) := by decide +kernel
theorem dX6_inGlasses_36 : decode cX6_inGlasses 36 = .ok (.iload_n 1, 1) := by decide +kernel
theorem dX6_inGlasses_37 : decode cX6_inGlasses 37 = .ok (.ireturn, 1) := by decide +kernel
theorem dX6_onTowers_0 : decode cX6_onTowers 0 = .ok (.iconst 0, 1) := by decide +kernel
theorem dX6_onTowers_1 : decode cX6_onTowers 1 = .ok (.istore_n 1, 1) := by decide +kernel
theorem dX6_onTowers_2 : decode cX6_onTowers 2 = .ok (.iconst 0, 1) := by decide +kernel
theorem dX6_onTowers_3 : decode cX6_onTowers 3 = .ok (.istore_n 2, 1) := by decide +kernel
theorem dX6_onTowers_4 : decode cX6_onTowers 4 = .ok (.iload_n 2, 1) := by decide +kernel
theorem dX6_onTowers_5 : decode cX6_onTowers 5 = .ok (.bipush 10, 2) := by decide +kernel
theorem dX6_onTowers_7 : decode cX6_onTowers 7 = .ok (.if_icmp .ge 21, 3) := by decide +kernel
theorem dX6_onTowers_10 : decode cX6_onTowers 10 = .ok (.iload_n 1, 1) := by decide +kernel
theorem dX6_onTowers_11 : decode cX6_onTowers 11 = .ok (.aload_n 0, 1) := by decide +kernel
theorem dX6_onTowers_12 : decode cX6_onTowers 12 = .ok (.getfield 7, 3) := by decide +kernel
theorem dX6_onTowers_15 : decode cX6_onTowers 15 = .ok (.bipush 21, 2) := by decide +kernel
theorem dX6_onTowers_17 : decode cX6_onTowers 17 = .ok (.iload_n 2, 1) := by decide +kernel
theorem dX6_onTowers_18 : decode cX6_onTowers 18 = .ok (.iadd, 1) := by decide +kernel
theorem dX6_onTowers_19 : decode cX6_onTowers 19 = .ok (.iaload, 1) := by decide +kernel
theorem dX6_onTowers_20 : decode cX6_onTowers 20 = .ok (.iadd, 1) := by decide +kernel
theorem dX6_onTowers_21 : decode cX6_onTowers 21 = .ok (.istore_n 1, 1) := by decide +kernel
theorem dX6_onTowers_22 : decode cX6_onTowers 22 = .ok (.iinc 2 1, 3) := by decide +kernel
theorem dX6_onTowers_25 : decode cX6_onTowers 25 = .ok (.goto (-21), 3) := by decide +kernel
theorem dX6_onTowers_28 : decode cX6_onTowers 28 = .ok (.iload_n 1, 1) := by decide +kernel
theorem dX6_onTowers_29 : decode cX6_onTowers 29 = .ok (.ireturn, 1) := by decide +kernel
theorem dX6_numberOf_0 : decode cX6_numberOf 0 = .ok (.iload_n 1, 1) := by decide +kernel
theorem dX6_numberOf_1 : decode cX6_numberOf 1 = .ok (.tableswitch 155 0 9 #[55, 62, 82, 103, 111, 119, 127, 137, 142, 147], 55) := by decide +kernel
theorem dX6_numberOf_56 : decode cX6_numberOf 56 = .ok (.aload_n 0, 1) := by decide +kernel
theorem dX6_numberOf_57 : decode cX6_numberOf 57 = .ok (.getfield 7, 3) := by decide +kernel
theorem dX6_numberOf_60 : decode cX6_numberOf 60 = .ok (.iconst 4, 1) := by decide +kernel
theorem dX6_numberOf_61 : decode cX6_numberOf 61 = .ok (.iaload, 1) := by decide +kernel
theorem dX6_numberOf_62 : decode cX6_numberOf 62 = .ok (.ireturn, 1) := by decide +kernel
theorem dX6_numberOf_63 : decode cX6_numberOf 63 = .ok (.aload_n 0, 1) := by decide +kernel
theorem dX6_numberOf_64 : decode cX6_numberOf 64 = .ok (.getfield 7, 3) := by decide +kernel
theorem dX6_numberOf_67 : decode cX6_numberOf 67 = .ok (.iconst 4, 1) := by decide +kernel
theorem dX6_numberOf_68 : decode cX6_numberOf 68 = .ok (.iaload, 1) := by decide +kernel
theorem dX6_numberOf_69 : decode cX6_numberOf 69 = .ok (.ifCond .ne 7, 3) := by decide +kernel
theorem dX6_numberOf_72 : decode cX6_numberOf 72 = .ok (.iconst (-1), 1) := by decide +kernel
theorem dX6_numberOf_73 : decode cX6_numberOf 73 = .ok (.goto 9, 3) := by decide +kernel
theorem dX6_numberOf_76 : decode cX6_numberOf 76 = .ok (.aload_n 0, 1) := by decide +kernel
theorem dX6_numberOf_77 : decode cX6_numberOf 77 = .ok (.getfield 7, 3) := by decide +kernel
theorem dX6_numberOf_80 : decode cX6_numberOf 80 = .ok (.iconst 5, 1) := by decide +kernel
theorem dX6_numberOf_81 : decode cX6_numberOf 81 = .ok (.iaload, 1) := by decide +kernel
theorem dX6_numberOf_82 : decode cX6_numberOf 82 = .ok (.ireturn, 1) := by decide +kernel
theorem dX6_numberOf_83 : decode cX6_numberOf 83 = .ok (.aload_n 0, 1) := by decide +kernel
theorem dX6_numberOf_84 : decode cX6_numberOf 84 = .ok (.getfield 7, 3) := by decide +kernel
theorem dX6_numberOf_87 : decode cX6_numberOf 87 = .ok (.iconst 4, 1) := by decide +kernel
theorem dX6_numberOf_88 : decode cX6_numberOf 88 = .ok (.iaload, 1) := by decide +kernel
theorem dX6_numberOf_89 : decode cX6_numberOf 89 = .ok (.ifCond .ne 7, 3) := by decide +kernel
theorem dX6_numberOf_92 : decode cX6_numberOf 92 = .ok (.iconst (-1), 1) := by decide +kernel
theorem dX6_numberOf_93 : decode cX6_numberOf 93 = .ok (.goto 10, 3) := by decide +kernel
theorem dX6_numberOf_96 : decode cX6_numberOf 96 = .ok (.aload_n 0, 1) := by decide +kernel
theorem dX6_numberOf_97 : decode cX6_numberOf 97 = .ok (.getfield 7, 3) := by decide +kernel
theorem dX6_numberOf_100 : decode cX6_numberOf 100 = .ok (.bipush 6, 2) := by decide +kernel
theorem dX6_numberOf_102 : decode cX6_numberOf 102 = .ok (.iaload, 1) := by decide +kernel
theorem dX6_numberOf_103 : decode cX6_numberOf 103 = .ok (.ireturn, 1) := by decide +kernel
theorem dX6_numberOf_104 : decode cX6_numberOf 104 = .ok (.aload_n 0, 1) := by decide +kernel
theorem dX6_numberOf_105 : decode cX6_numberOf 105 = .ok (.getfield 7, 3) := by decide +kernel
theorem dX6_numberOf_108 : decode cX6_numberOf 108 = .ok (.bipush 7, 2) := by decide +kernel
theorem dX6_numberOf_110 : decode cX6_numberOf 110 = .ok (.iaload, 1) := by decide +kernel
theorem dX6_numberOf_111 : decode cX6_numberOf 111 = .ok (.ireturn, 1) := by decide +kernel
theorem dX6_numberOf_112 : decode cX6_numberOf 112 = .ok (.aload_n 0, 1) := by decide +kernel
theorem dX6_numberOf_113 : decode cX6_numberOf 113 = .ok (.getfield 7, 3) := by decide +kernel
theorem dX6_numberOf_116 : decode cX6_numberOf 116 = .ok (.bipush 8, 2) := by decide +kernel
theorem dX6_numberOf_118 : decode cX6_numberOf 118 = .ok (.iaload, 1) := by decide +kernel
theorem dX6_numberOf_119 : decode cX6_numberOf 119 = .ok (.ireturn, 1) := by decide +kernel
theorem dX6_numberOf_120 : decode cX6_numberOf 120 = .ok (.aload_n 0, 1) := by decide +kernel
theorem dX6_numberOf_121 : decode cX6_numberOf 121 = .ok (.getfield 7, 3) := by decide +kernel
theorem dX6_numberOf_124 : decode cX6_numberOf 124 = .ok (.bipush 9, 2) := by decide +kernel
theorem dX6_numberOf_126 : decode cX6_numberOf 126 = .ok (.iaload, 1) := by decide +kernel
theorem dX6_numberOf_127 : decode cX6_numberOf 127 = .ok (.ireturn, 1) := by decide +kernel
theorem dX6_numberOf_128 : decode cX6_numberOf 128 = .ok (.aload_n 0, 1) := by decide +kernel
theorem dX6_numberOf_129 : decode cX6_numberOf 129 = .ok (.invokevirtual 168, 3) := by decide +kernel
theorem dX6_numberOf_132 : decode cX6_numberOf 132 = .ok (.aload_n 0, 1) := by decide +kernel
theorem dX6_numberOf_133 : decode cX6_numberOf 133 = .ok (.invokevirtual 171, 3) := by decide +kernel
theorem dX6_numberOf_136 : decode cX6_numberOf 136 = .ok (.iadd, 1) := by decide +kernel
theorem dX6_numberOf_137 : decode cX6_numberOf 137 = .ok (.ireturn, 1) := by decide +kernel
theorem dX6_numberOf_138 : decode cX6_numberOf 138 = .ok (.aload_n 0, 1) := by decide +kernel
theorem dX6_numberOf_139 : decode cX6_numberOf 139 = .ok (.invokevirtual 168, 3) := by decide +kernel
theorem dX6_numberOf_142 : decode cX6_numberOf 142 = .ok (.ireturn, 1) := by decide +kernel
theorem dX6_numberOf_143 : decode cX6_numberOf 143 = .ok (.aload_n 0, 1) := by decide +kernel
theorem dX6_numberOf_144 : decode cX6_numberOf 144 = .ok (.invokevirtual 171, 3) := by decide +kernel
theorem dX6_numberOf_147 : decode cX6_numberOf 147 = .ok (.ireturn, 1) := by decide +kernel
theorem dX6_numberOf_148 : decode cX6_numberOf 148 = .ok (.aload_n 0, 1) := by decide +kernel
theorem dX6_numberOf_149 : decode cX6_numberOf 149 = .ok (.getfield 7, 3) := by decide +kernel
theorem dX6_numberOf_152 : decode cX6_numberOf 152 = .ok (.bipush 10, 2) := by decide +kernel
theorem dX6_numberOf_154 : decode cX6_numberOf 154 = .ok (.iaload, 1) := by decide +kernel
theorem dX6_numberOf_155 : decode cX6_numberOf 155 = .ok (.ireturn, 1) := by decide +kernel
theorem dX6_numberOf_156 : decode cX6_numberOf 156 = .ok (.aload_n 0, 1) := by decide +kernel
theorem dX6_numberOf_157 : decode cX6_numberOf 157 = .ok (.getfield 43, 3) := by decide +kernel
theorem dX6_numberOf_160 : decode cX6_numberOf 160 = .ok (.ireturn, 1) := by decide +kernel
theorem dX6_count_0 : decode cX6_count 0 = .ok (.aload_n 0, 1) := by decide +kernel
theorem dX6_count_1 : decode cX6_count 1 = .ok (.iconst 0, 1) := by decide +kernel
theorem dX6_count_2 : decode cX6_count 2 = .ok (.putfield 35, 3) := by decide +kernel
theorem dX6_count_5 : decode cX6_count 5 = .ok (.iload_n 1, 1) := by decide +kernel
theorem dX6_count_6 : decode cX6_count 6 = .ok (.iconst 0, 1) := by decide +kernel
theorem dX6_count_7 : decode cX6_count 7 = .ok (.bipush 10, 2) := by decide +kernel
theorem dX6_count_9 : decode cX6_count 9 = .ok (.invokestatic 39, 3) := by decide +kernel
theorem dX6_count_12 : decode cX6_count 12 = .ok (.ifCond .eq 11, 3) := by decide +kernel
theorem dX6_count_15 : decode cX6_count 15 = .ok (.aload_n 0, 1) := by decide +kernel
theorem dX6_count_16 : decode cX6_count 16 = .ok (.iload_n 1, 1) := by decide +kernel
theorem dX6_count_17 : decode cX6_count 17 = .ok (.invokevirtual 174, 3) := by decide +kernel
theorem dX6_count_20 : decode cX6_count 20 = .ok (.goto 8, 3) := by decide +kernel
theorem dX6_count_23 : decode cX6_count 23 = .ok (.aload_n 0, 1) := by decide +kernel
theorem dX6_count_24 : decode cX6_count 24 = .ok (.iconst 1, 1) := by decide +kernel
theorem dX6_count_25 : decode cX6_count 25 = .ok (.invokevirtual 46, 3) := by decide +kernel
theorem dX6_count_28 : decode cX6_count 28 = .ok (.ireturn, 1) := by decide +kernel
theorem dX6_setting_0 : decode cX6_setting 0 = .ok (.aload_n 0, 1) := by decide +kernel
theorem dX6_setting_1 : decode cX6_setting 1 = .ok (.iconst 0, 1) := by decide +kernel
theorem dX6_setting_2 : decode cX6_setting 2 = .ok (.putfield 35, 3) := by decide +kernel
theorem dX6_setting_5 : decode cX6_setting 5 = .ok (.iload_n 1, 1) := by decide +kernel
theorem dX6_setting_6 : decode cX6_setting 6 = .ok (.iconst 0, 1) := by decide +kernel
theorem dX6_setting_7 : decode cX6_setting 7 = .ok (.iconst 3, 1) := by decide +kernel
theorem dX6_setting_8 : decode cX6_setting 8 = .ok (.invokestatic 39, 3) := by decide +kernel
theorem dX6_setting_11 : decode cX6_setting 11 = .ok (.ifCond .eq 12, 3) := by decide +kernel
theorem dX6_setting_14 : decode cX6_setting 14 = .ok (.aload_n 0, 1) := by decide +kernel
theorem dX6_setting_15 : decode cX6_setting 15 = .ok (.getfield 7, 3) := by decide +kernel
theorem dX6_setting_18 : decode cX6_setting 18 = .ok (.iload_n 1, 1) := by decide +kernel
theorem dX6_setting_19 : decode cX6_setting 19 = .ok (.iaload, 1) := by decide +kernel
theorem dX6_setting_20 : decode cX6_setting 20 = .ok (.goto 8, 3) := by decide +kernel
theorem dX6_setting_23 : decode cX6_setting 23 = .ok (.aload_n 0, 1) := by decide +kernel
theorem dX6_setting_24 : decode cX6_setting 24 = .ok (.iconst 1, 1) := by decide +kernel
theorem dX6_setting_25 : decode cX6_setting 25 = .ok (.invokevirtual 46, 3) := by decide +kernel
theorem dX6_setting_28 : decode cX6_setting 28 = .ok (.ireturn, 1) := by decide +kernel
theorem dX6_cheapest_0 : decode cX6_cheapest 0 = .ok (.iconst 0, 1) := by decide +kernel
theorem dX6_cheapest_1 : decode cX6_cheapest 1 = .ok (.istore_n 3, 1) := by decide +kernel
theorem dX6_cheapest_2 : decode cX6_cheapest 2 = .ok (.iload_n 3, 1) := by decide +kernel
theorem dX6_cheapest_3 : decode cX6_cheapest 3 = .ok (.bipush 10, 2) := by decide +kernel
theorem dX6_cheapest_5 : decode cX6_cheapest 5 = .ok (.if_icmp .ge 26, 3) := by decide +kernel
theorem dX6_cheapest_8 : decode cX6_cheapest 8 = .ok (.aload_n 0, 1) := by decide +kernel
theorem dX6_cheapest_9 : decode cX6_cheapest 9 = .ok (.getfield 32, 3) := by decide +kernel
theorem dX6_cheapest_12 : decode cX6_cheapest 12 = .ok (.iload_n 3, 1) := by decide +kernel
theorem dX6_cheapest_13 : decode cX6_cheapest 13 = .ok (.iload_n 3, 1) := by decide +kernel
theorem dX6_cheapest_14 : decode cX6_cheapest 14 = .ok (.iload_n 1, 1) := by decide +kernel
theorem dX6_cheapest_15 : decode cX6_cheapest 15 = .ok (.if_icmp .ne 7, 3) := by decide +kernel
theorem dX6_cheapest_18 : decode cX6_cheapest 18 = .ok (.iconst 0, 1) := by decide +kernel
theorem dX6_cheapest_19 : decode cX6_cheapest 19 = .ok (.goto 5, 3) := by decide +kernel
theorem dX6_cheapest_22 : decode cX6_cheapest 22 = .ok (.ldc 177, 2) := by decide +kernel
theorem dX6_cheapest_24 : decode cX6_cheapest 24 = .ok (.iastore, 1) := by decide +kernel
theorem dX6_cheapest_25 : decode cX6_cheapest 25 = .ok (.iinc 3 1, 3) := by decide +kernel
theorem dX6_cheapest_28 : decode cX6_cheapest 28 = .ok (.goto (-26), 3) := by decide +kernel
theorem dX6_cheapest_31 : decode cX6_cheapest 31 = .ok (.iconst 1, 1) := by decide +kernel
theorem dX6_cheapest_32 : decode cX6_cheapest 32 = .ok (.istore_n 3, 1) := by decide +kernel
theorem dX6_cheapest_33 : decode cX6_cheapest 33 = .ok (.iload_n 3, 1) := by decide +kernel
theorem dX6_cheapest_34 : decode cX6_cheapest 34 = .ok (.ifCond .eq 97, 3) := by decide +kernel
theorem dX6_cheapest_37 : decode cX6_cheapest 37 = .ok (.iconst 0, 1) := by decide +kernel
theorem dX6_cheapest_38 : decode cX6_cheapest 38 = .ok (.istore_n 3, 1) := by decide +kernel
theorem dX6_cheapest_39 : decode cX6_cheapest 39 = .ok (.iconst 0, 1) := by decide +kernel
theorem dX6_cheapest_40 : decode cX6_cheapest 40 = .ok (.istore 4, 2) := by decide +kernel
theorem dX6_cheapest_42 : decode cX6_cheapest 42 = .ok (.iload 4, 2) := by decide +kernel
theorem dX6_cheapest_44 : decode cX6_cheapest 44 = .ok (.bipush 100, 2) := by decide +kernel
theorem dX6_cheapest_46 : decode cX6_cheapest 46 = .ok (.if_icmp .ge 82, 3) := by decide +kernel
theorem dX6_cheapest_49 : decode cX6_cheapest 49 = .ok (.iload 4, 2) := by decide +kernel
theorem dX6_cheapest_51 : decode cX6_cheapest 51 = .ok (.bipush 10, 2) := by decide +kernel
theorem dX6_cheapest_53 : decode cX6_cheapest 53 = .ok (.idiv, 1) := by decide +kernel
theorem dX6_cheapest_54 : decode cX6_cheapest 54 = .ok (.istore 5, 2) := by decide +kernel
theorem dX6_cheapest_56 : decode cX6_cheapest 56 = .ok (.iload 4, 2) := by decide +kernel
theorem dX6_cheapest_58 : decode cX6_cheapest 58 = .ok (.bipush 10, 2) := by decide +kernel
theorem dX6_cheapest_60 : decode cX6_cheapest 60 = .ok (.irem, 1) := by decide +kernel
theorem dX6_cheapest_61 : decode cX6_cheapest 61 = .ok (.istore 6, 2) := by decide +kernel
theorem dX6_cheapest_63 : decode cX6_cheapest 63 = .ok (.aload_n 0, 1) := by decide +kernel
theorem dX6_cheapest_64 : decode cX6_cheapest 64 = .ok (.getfield 32, 3) := by decide +kernel
theorem dX6_cheapest_67 : decode cX6_cheapest 67 = .ok (.iload 5, 2) := by decide +kernel
theorem dX6_cheapest_69 : decode cX6_cheapest 69 = .ok (.iaload, 1) := by decide +kernel
theorem dX6_cheapest_70 : decode cX6_cheapest 70 = .ok (.aload_n 0, 1) := by decide +kernel
theorem dX6_cheapest_71 : decode cX6_cheapest 71 = .ok (.iload 5, 2) := by decide +kernel
theorem dX6_cheapest_73 : decode cX6_cheapest 73 = .ok (.iload 6, 2) := by decide +kernel
theorem dX6_cheapest_75 : decode cX6_cheapest 75 = .ok (.invokevirtual 76, 3) := by decide +kernel
theorem dX6_cheapest_78 : decode cX6_cheapest 78 = .ok (.iadd, 1) := by decide +kernel
theorem dX6_cheapest_79 : decode cX6_cheapest 79 = .ok (.istore 7, 2) := by decide +kernel
theorem dX6_cheapest_81 : decode cX6_cheapest 81 = .ok (.iload 5, 2) := by decide +kernel
theorem dX6_cheapest_83 : decode cX6_cheapest 83 = .ok (.iload 6, 2) := by decide +kernel
theorem dX6_cheapest_85 : decode cX6_cheapest 85 = .ok (.if_icmp .eq 37, 3) := by decide +kernel
theorem dX6_cheapest_88 : decode cX6_cheapest 88 = .ok (.iload 7, 2) := by decide +kernel
theorem dX6_cheapest_90 : decode cX6_cheapest 90 = .ok (.aload_n 0, 1) := by decide +kernel
theorem dX6_cheapest_91 : decode cX6_cheapest 91 = .ok (.getfield 32, 3) := by decide +kernel
theorem dX6_cheapest_94 : decode cX6_cheapest 94 = .ok (.iload 6, 2) := by decide +kernel
theorem dX6_cheapest_96 : decode cX6_cheapest 96 = .ok (.iaload, 1) := by decide +kernel
theorem dX6_cheapest_97 : decode cX6_cheapest 97 = .ok (.if_icmp .ge 25, 3) := by decide +kernel
theorem dX6_cheapest_100 : decode cX6_cheapest 100 = .ok (.aload_n 0, 1) := by decide +kernel
theorem dX6_cheapest_101 : decode cX6_cheapest 101 = .ok (.iload 5, 2) := by decide +kernel
theorem dX6_cheapest_103 : decode cX6_cheapest 103 = .ok (.iload 6, 2) := by decide +kernel
theorem dX6_cheapest_105 : decode cX6_cheapest 105 = .ok (.invokevirtual 59, 3) := by decide +kernel
theorem dX6_cheapest_108 : decode cX6_cheapest 108 = .ok (.ifCond .eq 14, 3) := by decide +kernel
theorem dX6_cheapest_111 : decode cX6_cheapest 111 = .ok (.aload_n 0, 1) := by decide +kernel
theorem dX6_cheapest_112 : decode cX6_cheapest 112 = .ok (.getfield 32, 3) := by decide +kernel
theorem dX6_cheapest_115 : decode cX6_cheapest 115 = .ok (.iload 6, 2) := by decide +kernel
theorem dX6_cheapest_117 : decode cX6_cheapest 117 = .ok (.iload 7, 2) := by decide +kernel
theorem dX6_cheapest_119 : decode cX6_cheapest 119 = .ok (.iastore, 1) := by decide +kernel
theorem dX6_cheapest_120 : decode cX6_cheapest 120 = .ok (.iconst 1, 1) := by decide +kernel
theorem dX6_cheapest_121 : decode cX6_cheapest 121 = .ok (.istore_n 3, 1) := by decide +kernel
theorem dX6_cheapest_122 : decode cX6_cheapest 122 = .ok (.iinc 4 1, 3) := by decide +kernel
theorem dX6_cheapest_125 : decode cX6_cheapest 125 = .ok (.goto (-83), 3) := by decide +kernel
theorem dX6_cheapest_128 : decode cX6_cheapest 128 = .ok (.goto (-95), 3) := by decide +kernel
theorem dX6_cheapest_131 : decode cX6_cheapest 131 = .ok (.aload_n 0, 1) := by decide +kernel
theorem dX6_cheapest_132 : decode cX6_cheapest 132 = .ok (.getfield 32, 3) := by decide +kernel
theorem dX6_cheapest_135 : decode cX6_cheapest 135 = .ok (.iload_n 2, 1) := by decide +kernel
theorem dX6_cheapest_136 : decode cX6_cheapest 136 = .ok (.iaload, 1) := by decide +kernel
theorem dX6_cheapest_137 : decode cX6_cheapest 137 = .ok (.ireturn, 1) := by decide +kernel
theorem dX6_price_0 : decode cX6_price 0 = .ok (.aload_n 0, 1) := by decide +kernel
theorem dX6_price_1 : decode cX6_price 1 = .ok (.iconst 0, 1) := by decide +kernel
theorem dX6_price_2 : decode cX6_price 2 = .ok (.putfield 35, 3) := by decide +kernel
theorem dX6_price_5 : decode cX6_price 5 = .ok (.iload_n 1, 1) := by decide +kernel
theorem dX6_price_6 : decode cX6_price 6 = .ok (.iconst 0, 1) := by decide +kernel
theorem dX6_price_7 : decode cX6_price 7 = .ok (.bipush 9, 2) := by decide +kernel
theorem dX6_price_9 : decode cX6_price 9 = .ok (.invokestatic 39, 3) := by decide +kernel
theorem dX6_price_12 : decode cX6_price 12 = .ok (.ifCond .eq 13, 3) := by decide +kernel
theorem dX6_price_15 : decode cX6_price 15 = .ok (.iload_n 2, 1) := by decide +kernel
theorem dX6_price_16 : decode cX6_price 16 = .ok (.iconst 0, 1) := by decide +kernel
theorem dX6_price_17 : decode cX6_price 17 = .ok (.bipush 9, 2) := by decide +kernel
theorem dX6_price_19 : decode cX6_price 19 = .ok (.invokestatic 39, 3) := by decide +kernel
theorem dX6_price_22 : decode cX6_price 22 = .ok (.ifCond .ne 9, 3) := by decide +kernel
theorem dX6_price_25 : decode cX6_price 25 = .ok (.aload_n 0, 1) := by decide +kernel
theorem dX6_price_26 : decode cX6_price 26 = .ok (.iconst 1, 1) := by decide +kernel
theorem dX6_price_27 : decode cX6_price 27 = .ok (.invokevirtual 46, 3) := by decide +kernel
theorem dX6_price_30 : decode cX6_price 30 = .ok (.ireturn, 1) := by decide +kernel
theorem dX6_price_31 : decode cX6_price 31 = .ok (.iload_n 3, 1) := by decide +kernel
theorem dX6_price_32 : decode cX6_price 32 = .ok (.iconst 0, 1) := by decide +kernel
theorem dX6_price_33 : decode cX6_price 33 = .ok (.iconst 1, 1) := by decide +kernel
theorem dX6_price_34 : decode cX6_price 34 = .ok (.invokestatic 39, 3) := by decide +kernel
theorem dX6_price_37 : decode cX6_price 37 = .ok (.ifCond .eq 12, 3) := by decide +kernel
theorem dX6_price_40 : decode cX6_price 40 = .ok (.aload_n 0, 1) := by decide +kernel
theorem dX6_price_41 : decode cX6_price 41 = .ok (.iload_n 1, 1) := by decide +kernel
theorem dX6_price_42 : decode cX6_price 42 = .ok (.iload_n 2, 1) := by decide +kernel
theorem dX6_price_43 : decode cX6_price 43 = .ok (.invokevirtual 178, 3) := by decide +kernel
theorem dX6_price_46 : decode cX6_price 46 = .ok (.goto 8, 3) := by decide +kernel
theorem dX6_price_49 : decode cX6_price 49 = .ok (.aload_n 0, 1) := by decide +kernel
theorem dX6_price_50 : decode cX6_price 50 = .ok (.iconst 2, 1) := by decide +kernel
theorem dX6_price_51 : decode cX6_price 51 = .ok (.invokevirtual 46, 3) := by decide +kernel
theorem dX6_price_54 : decode cX6_price 54 = .ok (.ireturn, 1) := by decide +kernel
theorem dX6_whyNot_0 : decode cX6_whyNot 0 = .ok (.aload_n 0, 1) := by decide +kernel
theorem dX6_whyNot_1 : decode cX6_whyNot 1 = .ok (.iconst 0, 1) := by decide +kernel
theorem dX6_whyNot_2 : decode cX6_whyNot 2 = .ok (.putfield 35, 3) := by decide +kernel
theorem dX6_whyNot_5 : decode cX6_whyNot 5 = .ok (.aload_n 0, 1) := by decide +kernel
theorem dX6_whyNot_6 : decode cX6_whyNot 6 = .ok (.iload_n 1, 1) := by decide +kernel
theorem dX6_whyNot_7 : decode cX6_whyNot 7 = .ok (.invokevirtual 125, 3) := by decide +kernel
theorem dX6_whyNot_10 : decode cX6_whyNot 10 = .ok (.ifCond .eq 22, 3) := by decide +kernel
theorem dX6_whyNot_13 : decode cX6_whyNot 13 = .ok (.iload_n 2, 1) := by decide +kernel
theorem dX6_whyNot_14 : decode cX6_whyNot 14 = .ok (.iconst 0, 1) := by decide +kernel
theorem dX6_whyNot_15 : decode cX6_whyNot 15 = .ok (.bipush 9, 2) := by decide +kernel
theorem dX6_whyNot_17 : decode cX6_whyNot 17 = .ok (.invokestatic 39, 3) := by decide +kernel
theorem dX6_whyNot_20 : decode cX6_whyNot 20 = .ok (.ifCond .eq 12, 3) := by decide +kernel
theorem dX6_whyNot_23 : decode cX6_whyNot 23 = .ok (.aload_n 0, 1) := by decide +kernel
theorem dX6_whyNot_24 : decode cX6_whyNot 24 = .ok (.iload_n 1, 1) := by decide +kernel
theorem dX6_whyNot_25 : decode cX6_whyNot 25 = .ok (.iload_n 2, 1) := by decide +kernel
theorem dX6_whyNot_26 : decode cX6_whyNot 26 = .ok (.invokevirtual 159, 3) := by decide +kernel
theorem dX6_whyNot_29 : decode cX6_whyNot 29 = .ok (.goto 8, 3) := by decide +kernel
theorem dX6_whyNot_32 : decode cX6_whyNot 32 = .ok (.aload_n 0, 1) := by decide +kernel
theorem dX6_whyNot_33 : decode cX6_whyNot 33 = .ok (.iconst 1, 1) := by decide +kernel
theorem dX6_whyNot_34 : decode cX6_whyNot 34 = .ok (.invokevirtual 46, 3) := by decide +kernel
theorem dX6_whyNot_37 : decode cX6_whyNot 37 = .ok (.ireturn, 1) := by decide +kernel
theorem dX6_breaks_0 : decode cX6_breaks 0 = .ok (.aload_n 0, 1) := by decide +kernel
theorem dX6_breaks_1 : decode cX6_breaks 1 = .ok (.iload_n 1, 1) := by decide +kernel
theorem dX6_breaks_2 : decode cX6_breaks 2 = .ok (.invokevirtual 91, 3) := by decide +kernel
theorem dX6_breaks_5 : decode cX6_breaks 5 = .ok (.iload_n 2, 1) := by decide +kernel
theorem dX6_breaks_6 : decode cX6_breaks 6 = .ok (.istore 4, 2) := by decide +kernel
theorem dX6_breaks_8 : decode cX6_breaks 8 = .ok (.iload_n 3, 1) := by decide +kernel
theorem dX6_breaks_9 : decode cX6_breaks 9 = .ok (.bipush 12, 2) := by decide +kernel
theorem dX6_breaks_11 : decode cX6_breaks 11 = .ok (.idiv, 1) := by decide +kernel
theorem dX6_breaks_12 : decode cX6_breaks 12 = .ok (.istore 5, 2) := by decide +kernel
theorem dX6_breaks_14 : decode cX6_breaks 14 = .ok (.iload 5, 2) := by decide +kernel
theorem dX6_breaks_16 : decode cX6_breaks 16 = .ok (.ifCond .le 119, 3) := by decide +kernel
theorem dX6_breaks_19 : decode cX6_breaks 19 = .ok (.iload 4, 2) := by decide +kernel
theorem dX6_breaks_21 : decode cX6_breaks 21 = .ok (.iload 5, 2) := by decide +kernel
theorem dX6_breaks_23 : decode cX6_breaks 23 = .ok (.idiv, 1) := by decide +kernel
theorem dX6_breaks_24 : decode cX6_breaks 24 = .ok (.istore 6, 2) := by decide +kernel
theorem dX6_breaks_26 : decode cX6_breaks 26 = .ok (.iload 4, 2) := by decide +kernel
theorem dX6_breaks_28 : decode cX6_breaks 28 = .ok (.iload 5, 2) := by decide +kernel
theorem dX6_breaks_30 : decode cX6_breaks 30 = .ok (.irem, 1) := by decide +kernel
theorem dX6_breaks_31 : decode cX6_breaks 31 = .ok (.istore 4, 2) := by decide +kernel
theorem dX6_breaks_33 : decode cX6_breaks 33 = .ok (.iload 6, 2) := by decide +kernel
theorem dX6_breaks_35 : decode cX6_breaks 35 = .ok (.bipush 10, 2) := by decide +kernel
theorem dX6_breaks_37 : decode cX6_breaks 37 = .ok (.if_icmp .ge 20, 3) := by decide +kernel
theorem dX6_breaks_40 : decode cX6_breaks 40 = .ok (.aload_n 0, 1) := by decide +kernel
theorem dX6_breaks_41 : decode cX6_breaks 41 = .ok (.iload 6, 2) := by decide +kernel
theorem dX6_breaks_43 : decode cX6_breaks 43 = .ok (.invokevirtual 97, 3) := by decide +kernel
theorem dX6_breaks_46 : decode cX6_breaks 46 = .ok (.ifCond .ne 7, 3) := by decide +kernel
theorem dX6_breaks_49 : decode cX6_breaks 49 = .ok (.iconst 1, 1) := by decide +kernel
theorem dX6_breaks_50 : decode cX6_breaks 50 = .ok (.goto 32, 3) := by decide +kernel
theorem dX6_breaks_53 : decode cX6_breaks 53 = .ok (.iconst 0, 1) := by decide +kernel
theorem dX6_breaks_54 : decode cX6_breaks 54 = .ok (.goto 28, 3) := by decide +kernel
theorem dX6_breaks_57 : decode cX6_breaks 57 = .ok (.iload 6, 2) := by decide +kernel
theorem dX6_breaks_59 : decode cX6_breaks 59 = .ok (.bipush 10, 2) := by decide +kernel
theorem dX6_breaks_61 : decode cX6_breaks 61 = .ok (.if_icmp .eq 16, 3) := by decide +kernel
theorem dX6_breaks_64 : decode cX6_breaks 64 = .ok (.aload_n 0, 1) := by decide +kernel
theorem dX6_breaks_65 : decode cX6_breaks 65 = .ok (.getfield 7, 3) := by decide +kernel
theorem dX6_breaks_68 : decode cX6_breaks 68 = .ok (.iconst 2, 1) := by decide +kernel
theorem dX6_breaks_69 : decode cX6_breaks 69 = .ok (.iaload, 1) := by decide +kernel
theorem dX6_breaks_70 : decode cX6_breaks 70 = .ok (.aload_n 0, 1) := by decide +kernel
theorem dX6_breaks_71 : decode cX6_breaks 71 = .ok (.getfield 73, 3) := by decide +kernel
theorem dX6_breaks_74 : decode cX6_breaks 74 = .ok (.if_icmp .gt 7, 3) := by decide +kernel
theorem dX6_breaks_77 : decode cX6_breaks 77 = .ok (.iconst 1, 1) := by decide +kernel
theorem dX6_breaks_78 : decode cX6_breaks 78 = .ok (.goto 4, 3) := by decide +kernel
theorem dX6_breaks_81 : decode cX6_breaks 81 = .ok (.iconst 0, 1) := by decide +kernel
theorem dX6_breaks_82 : decode cX6_breaks 82 = .ok (.istore 7, 2) := by decide +kernel
theorem dX6_breaks_84 : decode cX6_breaks 84 = .ok (.iload 7, 2) := by decide +kernel
theorem dX6_breaks_86 : decode cX6_breaks 86 = .ok (.ifCond .ne 6, 3) := by decide +kernel
theorem dX6_breaks_89 : decode cX6_breaks 89 = .ok (.iload 5, 2) := by decide +kernel
theorem dX6_breaks_91 : decode cX6_breaks 91 = .ok (.ireturn, 1) := by decide +kernel
theorem dX6_breaks_92 : decode cX6_breaks 92 = .ok (.iload 6, 2) := by decide +kernel
theorem dX6_breaks_94 : decode cX6_breaks 94 = .ok (.bipush 10, 2) := by decide +kernel
theorem dX6_breaks_96 : decode cX6_breaks 96 = .ok (.if_icmp .ge 12, 3) := by decide +kernel
theorem dX6_breaks_99 : decode cX6_breaks 99 = .ok (.aload_n 0, 1) := by decide +kernel
theorem dX6_breaks_100 : decode cX6_breaks 100 = .ok (.iload 6, 2) := by decide +kernel
theorem dX6_breaks_102 : decode cX6_breaks 102 = .ok (.invokevirtual 103, 3) := by decide +kernel
theorem dX6_breaks_105 : decode cX6_breaks 105 = .ok (.goto 14, 3) := by decide +kernel
theorem dX6_breaks_108 : decode cX6_breaks 108 = .ok (.iload 6, 2) := by decide +kernel
theorem dX6_breaks_110 : decode cX6_breaks 110 = .ok (.bipush 11, 2) := by decide +kernel
theorem dX6_breaks_112 : decode cX6_breaks 112 = .ok (.if_icmp .ne 7, 3) := by decide +kernel
theorem dX6_breaks_115 : decode cX6_breaks 115 = .ok (.aload_n 0, 1) := by decide +kernel
theorem dX6_breaks_116 : decode cX6_breaks 116 = .ok (.invokevirtual 106, 3) := by decide +kernel
theorem dX6_breaks_119 : decode cX6_breaks 119 = .ok (.aload_n 0, 1) := by decide +kernel
theorem dX6_breaks_120 : decode cX6_breaks 120 = .ok (.invokevirtual 79, 3) := by decide +kernel
theorem dX6_breaks_123 : decode cX6_breaks 123 = .ok (.istore 8, 2) := by decide +kernel
theorem dX6_breaks_125 : decode cX6_breaks 125 = .ok (.iload 5, 2) := by decide +kernel
theorem dX6_breaks_127 : decode cX6_breaks 127 = .ok (.bipush 12, 2) := by decide +kernel
theorem dX6_breaks_129 : decode cX6_breaks 129 = .ok (.idiv, 1) := by decide +kernel
theorem dX6_breaks_130 : decode cX6_breaks 130 = .ok (.istore 5, 2) := by decide +kernel
theorem dX6_breaks_132 : decode cX6_breaks 132 = .ok (.goto (-118), 3) := by decide +kernel
theorem dX6_breaks_135 : decode cX6_breaks 135 = .ok (.iconst 0, 1) := by decide +kernel
theorem dX6_breaks_136 : decode cX6_breaks 136 = .ok (.ireturn, 1) := by decide +kernel
theorem dX6_fewest_0 : decode cX6_fewest 0 = .ok (.aload_n 0, 1) := by decide +kernel
theorem dX6_fewest_1 : decode cX6_fewest 1 = .ok (.iload_n 1, 1) := by decide +kernel
theorem dX6_fewest_2 : decode cX6_fewest 2 = .ok (.iconst 0, 1) := by decide +kernel
theorem dX6_fewest_3 : decode cX6_fewest 3 = .ok (.invokevirtual 63, 3) := by decide +kernel
theorem dX6_fewest_6 : decode cX6_fewest 6 = .ok (.iload_n 2, 1) := by decide +kernel
theorem dX6_fewest_7 : decode cX6_fewest 7 = .ok (.if_icmp .ne 5, 3) := by decide +kernel
theorem dX6_fewest_10 : decode cX6_fewest 10 = .ok (.iconst 0, 1) := by decide +kernel
theorem dX6_fewest_11 : decode cX6_fewest 11 = .ok (.ireturn, 1) := by decide +kernel
theorem dX6_fewest_12 : decode cX6_fewest 12 = .ok (.iconst 1, 1) := by decide +kernel
theorem dX6_fewest_13 : decode cX6_fewest 13 = .ok (.istore_n 3, 1) := by decide +kernel
theorem dX6_fewest_14 : decode cX6_fewest 14 = .ok (.iconst 1, 1) := by decide +kernel
theorem dX6_fewest_15 : decode cX6_fewest 15 = .ok (.istore 4, 2) := by decide +kernel
theorem dX6_fewest_17 : decode cX6_fewest 17 = .ok (.iload 4, 2) := by decide +kernel
theorem dX6_fewest_19 : decode cX6_fewest 19 = .ok (.iconst 5, 1) := by decide +kernel
theorem dX6_fewest_20 : decode cX6_fewest 20 = .ok (.if_icmp .ge 76, 3) := by decide +kernel
theorem dX6_fewest_23 : decode cX6_fewest 23 = .ok (.iload_n 3, 1) := by decide +kernel
theorem dX6_fewest_24 : decode cX6_fewest 24 = .ok (.bipush 12, 2) := by decide +kernel
theorem dX6_fewest_26 : decode cX6_fewest 26 = .ok (.imul, 1) := by decide +kernel
theorem dX6_fewest_27 : decode cX6_fewest 27 = .ok (.istore_n 3, 1) := by decide +kernel
theorem dX6_fewest_28 : decode cX6_fewest 28 = .ok (.iconst 0, 1) := by decide +kernel
theorem dX6_fewest_29 : decode cX6_fewest 29 = .ok (.istore 5, 2) := by decide +kernel
theorem dX6_fewest_31 : decode cX6_fewest 31 = .ok (.iload 5, 2) := by decide +kernel
theorem dX6_fewest_33 : decode cX6_fewest 33 = .ok (.iload_n 3, 1) := by decide +kernel
theorem dX6_fewest_34 : decode cX6_fewest 34 = .ok (.if_icmp .ge 56, 3) := by decide +kernel
theorem dX6_fewest_37 : decode cX6_fewest 37 = .ok (.aload_n 0, 1) := by decide +kernel
theorem dX6_fewest_38 : decode cX6_fewest 38 = .ok (.iload_n 1, 1) := by decide +kernel
theorem dX6_fewest_39 : decode cX6_fewest 39 = .ok (.iload 5, 2) := by decide +kernel
theorem dX6_fewest_41 : decode cX6_fewest 41 = .ok (.iload_n 3, 1) := by decide +kernel
theorem dX6_fewest_42 : decode cX6_fewest 42 = .ok (.invokevirtual 181, 3) := by decide +kernel
theorem dX6_fewest_45 : decode cX6_fewest 45 = .ok (.istore 6, 2) := by decide +kernel
theorem dX6_fewest_47 : decode cX6_fewest 47 = .ok (.iload 6, 2) := by decide +kernel
theorem dX6_fewest_49 : decode cX6_fewest 49 = .ok (.ifCond .ne 14, 3) := by decide +kernel
theorem dX6_fewest_52 : decode cX6_fewest 52 = .ok (.aload_n 0, 1) := by decide +kernel
theorem dX6_fewest_53 : decode cX6_fewest 53 = .ok (.getfield 67, 3) := by decide +kernel
theorem dX6_fewest_56 : decode cX6_fewest 56 = .ok (.iload_n 2, 1) := by decide +kernel
theorem dX6_fewest_57 : decode cX6_fewest 57 = .ok (.if_icmp .ne 6, 3) := by decide +kernel
theorem dX6_fewest_60 : decode cX6_fewest 60 = .ok (.iload 4, 2) := by decide +kernel
theorem dX6_fewest_62 : decode cX6_fewest 62 = .ok (.ireturn, 1) := by decide +kernel
