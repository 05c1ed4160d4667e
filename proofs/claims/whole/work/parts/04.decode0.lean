/-! decode rows -/
theorem dX0_init_0 : decode cX0_init 0 = .ok (.aload_n 0, 1) := by decide +kernel
theorem dX0_init_1 : decode cX0_init 1 = .ok (.invokespecial 3, 3) := by decide +kernel
theorem dX0_init_4 : decode cX0_init 4 = .ok (.aload_n 0, 1) := by decide +kernel
theorem dX0_init_5 : decode cX0_init 5 = .ok (.new 9, 3) := by decide +kernel
theorem dX0_init_8 : decode cX0_init 8 = .ok (.dup, 1) := by decide +kernel
theorem dX0_init_9 : decode cX0_init 9 = .ok (.invokespecial 11, 3) := by decide +kernel
theorem dX0_init_12 : decode cX0_init 12 = .ok (.putfield 12, 3) := by decide +kernel
theorem dX0_init_15 : decode cX0_init 15 = .ok (.aload_n 0, 1) := by decide +kernel
theorem dX0_init_16 : decode cX0_init 16 = .ok (.bipush 8, 2) := by decide +kernel
theorem dX0_init_18 : decode cX0_init 18 = .ok (.newarray .int, 2) := by decide +kernel
theorem dX0_init_20 : decode cX0_init 20 = .ok (.putfield 18, 3) := by decide +kernel
theorem dX0_init_23 : decode cX0_init 23 = .ok (.aload_n 0, 1) := by decide +kernel
theorem dX0_init_24 : decode cX0_init 24 = .ok (.new 22, 3) := by decide +kernel
theorem dX0_init_27 : decode cX0_init 27 = .ok (.dup, 1) := by decide +kernel
theorem dX0_init_28 : decode cX0_init 28 = .ok (.invokespecial 24, 3) := by decide +kernel
theorem dX0_init_31 : decode cX0_init 31 = .ok (.putfield 25, 3) := by decide +kernel
theorem dX0_init_34 : decode cX0_init 34 = .ok (.aload_n 0, 1) := by decide +kernel
theorem dX0_init_35 : decode cX0_init 35 = .ok (.bipush 8, 2) := by decide +kernel
theorem dX0_init_37 : decode cX0_init 37 = .ok (.newarray .int, 2) := by decide +kernel
theorem dX0_init_39 : decode cX0_init 39 = .ok (.putfield 29, 3) := by decide +kernel
theorem dX0_init_42 : decode cX0_init 42 = .ok (.aload_n 0, 1) := by decide +kernel
theorem dX0_init_43 : decode cX0_init 43 = .ok (.bipush 8, 2) := by decide +kernel
theorem dX0_init_45 : decode cX0_init 45 = .ok (.newarray .int, 2) := by decide +kernel
theorem dX0_init_47 : decode cX0_init 47 = .ok (.putfield 32, 3) := by decide +kernel
theorem dX0_init_50 : decode cX0_init 50 = .ok (.return_, 1) := by decide +kernel
theorem dX0_run_0 : decode cX0_run 0 = .ok (.aload_n 0, 1) := by decide +kernel
theorem dX0_run_1 : decode cX0_run 1 = .ok (.invokevirtual 35, 3) := by decide +kernel
theorem dX0_run_4 : decode cX0_run 4 = .ok (.iconst 0, 1) := by decide +kernel
theorem dX0_run_5 : decode cX0_run 5 = .ok (.istore_n 1, 1) := by decide +kernel
theorem dX0_run_6 : decode cX0_run 6 = .ok (.iconst 0, 1) := by decide +kernel
theorem dX0_run_7 : decode cX0_run 7 = .ok (.istore_n 2, 1) := by decide +kernel
theorem dX0_run_8 : decode cX0_run 8 = .ok (.iload_n 2, 1) := by decide +kernel
theorem dX0_run_9 : decode cX0_run 9 = .ok (.sipush 1440, 3) := by decide +kernel
theorem dX0_run_12 : decode cX0_run 12 = .ok (.if_icmp .gt 36, 3) := by decide +kernel
theorem dX0_run_15 : decode cX0_run 15 = .ok (.iload_n 1, 1) := by decide +kernel
theorem dX0_run_16 : decode cX0_run 16 = .ok (.sipush 1440, 3) := by decide +kernel
theorem dX0_run_19 : decode cX0_run 19 = .ok (.if_icmp .gt 29, 3) := by decide +kernel
theorem dX0_run_22 : decode cX0_run 22 = .ok (.aload_n 0, 1) := by decide +kernel
theorem dX0_run_23 : decode cX0_run 23 = .ok (.iload_n 1, 1) := by decide +kernel
theorem dX0_run_24 : decode cX0_run 24 = .ok (.invokevirtual 38, 3) := by decide +kernel
theorem dX0_run_27 : decode cX0_run 27 = .ok (.ifCond .eq 9, 3) := by decide +kernel
theorem dX0_run_30 : decode cX0_run 30 = .ok (.iload_n 1, 1) := by decide +kernel
theorem dX0_run_31 : decode cX0_run 31 = .ok (.iconst 1, 1) := by decide +kernel
theorem dX0_run_32 : decode cX0_run 32 = .ok (.iadd, 1) := by decide +kernel
theorem dX0_run_33 : decode cX0_run 33 = .ok (.goto 8, 3) := by decide +kernel
theorem dX0_run_36 : decode cX0_run 36 = .ok (.aload_n 0, 1) := by decide +kernel
theorem dX0_run_37 : decode cX0_run 37 = .ok (.iload_n 1, 1) := by decide +kernel
theorem dX0_run_38 : decode cX0_run 38 = .ok (.invokevirtual 42, 3) := by decide +kernel
theorem dX0_run_41 : decode cX0_run 41 = .ok (.istore_n 1, 1) := by decide +kernel
theorem dX0_run_42 : decode cX0_run 42 = .ok (.iinc 2 1, 3) := by decide +kernel
theorem dX0_run_45 : decode cX0_run 45 = .ok (.goto (-37), 3) := by decide +kernel
theorem dX0_run_48 : decode cX0_run 48 = .ok (.return_, 1) := by decide +kernel
theorem dX0_waitedByAll_0 : decode cX0_waitedByAll 0 = .ok (.iconst 0, 1) := by decide +kernel
theorem dX0_waitedByAll_1 : decode cX0_waitedByAll 1 = .ok (.istore_n 1, 1) := by decide +kernel
theorem dX0_waitedByAll_2 : decode cX0_waitedByAll 2 = .ok (.iconst 0, 1) := by decide +kernel
theorem dX0_waitedByAll_3 : decode cX0_waitedByAll 3 = .ok (.istore_n 2, 1) := by decide +kernel
theorem dX0_waitedByAll_4 : decode cX0_waitedByAll 4 = .ok (.iload_n 2, 1) := by decide +kernel
theorem dX0_waitedByAll_5 : decode cX0_waitedByAll 5 = .ok (.aload_n 0, 1) := by decide +kernel
theorem dX0_waitedByAll_6 : decode cX0_waitedByAll 6 = .ok (.getfield 12, 3) := by decide +kernel
theorem dX0_waitedByAll_9 : decode cX0_waitedByAll 9 = .ok (.getfield 46, 3) := by decide +kernel
theorem dX0_waitedByAll_12 : decode cX0_waitedByAll 12 = .ok (.if_icmp .ge 55, 3) := by decide +kernel
theorem dX0_waitedByAll_15 : decode cX0_waitedByAll 15 = .ok (.aload_n 0, 1) := by decide +kernel
theorem dX0_waitedByAll_16 : decode cX0_waitedByAll 16 = .ok (.getfield 29, 3) := by decide +kernel
theorem dX0_waitedByAll_19 : decode cX0_waitedByAll 19 = .ok (.iload_n 2, 1) := by decide +kernel
theorem dX0_waitedByAll_20 : decode cX0_waitedByAll 20 = .ok (.iaload, 1) := by decide +kernel
theorem dX0_waitedByAll_21 : decode cX0_waitedByAll 21 = .ok (.iconst 3, 1) := by decide +kernel
theorem dX0_waitedByAll_22 : decode cX0_waitedByAll 22 = .ok (.if_icmp .eq 39, 3) := by decide +kernel
theorem dX0_waitedByAll_25 : decode cX0_waitedByAll 25 = .ok (.iload_n 1, 1) := by decide +kernel
theorem dX0_waitedByAll_26 : decode cX0_waitedByAll 26 = .ok (.aload_n 0, 1) := by decide +kernel
theorem dX0_waitedByAll_27 : decode cX0_waitedByAll 27 = .ok (.getfield 18, 3) := by decide +kernel
theorem dX0_waitedByAll_30 : decode cX0_waitedByAll 30 = .ok (.iload_n 2, 1) := by decide +kernel
theorem dX0_waitedByAll_31 : decode cX0_waitedByAll 31 = .ok (.iaload, 1) := by decide +kernel
theorem dX0_waitedByAll_32 : decode cX0_waitedByAll 32 = .ok (.bipush (-9), 2) := by decide +kernel
theorem dX0_waitedByAll_34 : decode cX0_waitedByAll 34 = .ok (.if_icmp .ne 9, 3) := by decide +kernel
theorem dX0_waitedByAll_37 : decode cX0_waitedByAll 37 = .ok (.sipush 1440, 3) := by decide +kernel
theorem dX0_waitedByAll_40 : decode cX0_waitedByAll 40 = .ok (.goto 9, 3) := by decide +kernel
theorem dX0_waitedByAll_43 : decode cX0_waitedByAll 43 = .ok (.aload_n 0, 1) := by decide +kernel
theorem dX0_waitedByAll_44 : decode cX0_waitedByAll 44 = .ok (.getfield 18, 3) := by decide +kernel
theorem dX0_waitedByAll_47 : decode cX0_waitedByAll 47 = .ok (.iload_n 2, 1) := by decide +kernel
theorem dX0_waitedByAll_48 : decode cX0_waitedByAll 48 = .ok (.iaload, 1) := by decide +kernel
theorem dX0_waitedByAll_49 : decode cX0_waitedByAll 49 = .ok (.aload_n 0, 1) := by decide +kernel
theorem dX0_waitedByAll_50 : decode cX0_waitedByAll 50 = .ok (.getfield 12, 3) := by decide +kernel
theorem dX0_waitedByAll_53 : decode cX0_waitedByAll 53 = .ok (.getfield 50, 3) := by decide +kernel
theorem dX0_waitedByAll_56 : decode cX0_waitedByAll 56 = .ok (.iload_n 2, 1) := by decide +kernel
theorem dX0_waitedByAll_57 : decode cX0_waitedByAll 57 = .ok (.iaload, 1) := by decide +kernel
theorem dX0_waitedByAll_58 : decode cX0_waitedByAll 58 = .ok (.isub, 1) := by decide +kernel
theorem dX0_waitedByAll_59 : decode cX0_waitedByAll 59 = .ok (.iadd, 1) := by decide +kernel
theorem dX0_waitedByAll_60 : decode cX0_waitedByAll 60 = .ok (.istore_n 1, 1) := by decide +kernel
theorem dX0_waitedByAll_61 : decode cX0_waitedByAll 61 = .ok (.iinc 2 1, 3) := by decide +kernel
theorem dX0_waitedByAll_64 : decode cX0_waitedByAll 64 = .ok (.goto (-60), 3) := by decide +kernel
theorem dX0_waitedByAll_67 : decode cX0_waitedByAll 67 = .ok (.iload_n 1, 1) := by decide +kernel
theorem dX0_waitedByAll_68 : decode cX0_waitedByAll 68 = .ok (.ireturn, 1) := by decide +kernel
theorem dX0_weightBegun_0 : decode cX0_weightBegun 0 = .ok (.iconst 0, 1) := by decide +kernel
theorem dX0_weightBegun_1 : decode cX0_weightBegun 1 = .ok (.istore_n 1, 1) := by decide +kernel
theorem dX0_weightBegun_2 : decode cX0_weightBegun 2 = .ok (.iconst 0, 1) := by decide +kernel
theorem dX0_weightBegun_3 : decode cX0_weightBegun 3 = .ok (.istore_n 2, 1) := by decide +kernel
theorem dX0_weightBegun_4 : decode cX0_weightBegun 4 = .ok (.iload_n 2, 1) := by decide +kernel
theorem dX0_weightBegun_5 : decode cX0_weightBegun 5 = .ok (.aload_n 0, 1) := by decide +kernel
theorem dX0_weightBegun_6 : decode cX0_weightBegun 6 = .ok (.getfield 12, 3) := by decide +kernel
theorem dX0_weightBegun_9 : decode cX0_weightBegun 9 = .ok (.getfield 46, 3) := by decide +kernel
theorem dX0_weightBegun_12 : decode cX0_weightBegun 12 = .ok (.if_icmp .ge 32, 3) := by decide +kernel
theorem dX0_weightBegun_15 : decode cX0_weightBegun 15 = .ok (.aload_n 0, 1) := by decide +kernel
theorem dX0_weightBegun_16 : decode cX0_weightBegun 16 = .ok (.getfield 18, 3) := by decide +kernel
theorem dX0_weightBegun_19 : decode cX0_weightBegun 19 = .ok (.iload_n 2, 1) := by decide +kernel
theorem dX0_weightBegun_20 : decode cX0_weightBegun 20 = .ok (.iaload, 1) := by decide +kernel
theorem dX0_weightBegun_21 : decode cX0_weightBegun 21 = .ok (.bipush (-9), 2) := by decide +kernel
theorem dX0_weightBegun_23 : decode cX0_weightBegun 23 = .ok (.if_icmp .eq 15, 3) := by decide +kernel
theorem dX0_weightBegun_26 : decode cX0_weightBegun 26 = .ok (.iload_n 1, 1) := by decide +kernel
theorem dX0_weightBegun_27 : decode cX0_weightBegun 27 = .ok (.aload_n 0, 1) := by decide +kernel
theorem dX0_weightBegun_28 : decode cX0_weightBegun 28 = .ok (.getfield 12, 3) := by decide +kernel
theorem dX0_weightBegun_31 : decode cX0_weightBegun 31 = .ok (.getfield 53, 3) := by decide +kernel
theorem dX0_weightBegun_34 : decode cX0_weightBegun 34 = .ok (.iload_n 2, 1) := by decide +kernel
theorem dX0_weightBegun_35 : decode cX0_weightBegun 35 = .ok (.iaload, 1) := by decide +kernel
theorem dX0_weightBegun_36 : decode cX0_weightBegun 36 = .ok (.iadd, 1) := by decide +kernel
theorem dX0_weightBegun_37 : decode cX0_weightBegun 37 = .ok (.istore_n 1, 1) := by decide +kernel
theorem dX0_weightBegun_38 : decode cX0_weightBegun 38 = .ok (.iinc 2 1, 3) := by decide +kernel
theorem dX0_weightBegun_41 : decode cX0_weightBegun 41 = .ok (.goto (-37), 3) := by decide +kernel
theorem dX0_weightBegun_44 : decode cX0_weightBegun 44 = .ok (.iload_n 1, 1) := by decide +kernel
theorem dX0_weightBegun_45 : decode cX0_weightBegun 45 = .ok (.ireturn, 1) := by decide +kernel
theorem dX0_trainsBegun_0 : decode cX0_trainsBegun 0 = .ok (.iconst 0, 1) := by decide +kernel
theorem dX0_trainsBegun_1 : decode cX0_trainsBegun 1 = .ok (.istore_n 1, 1) := by decide +kernel
theorem dX0_trainsBegun_2 : decode cX0_trainsBegun 2 = .ok (.iconst 0, 1) := by decide +kernel
theorem dX0_trainsBegun_3 : decode cX0_trainsBegun 3 = .ok (.istore_n 2, 1) := by decide +kernel
theorem dX0_trainsBegun_4 : decode cX0_trainsBegun 4 = .ok (.iload_n 2, 1) := by decide +kernel
theorem dX0_trainsBegun_5 : decode cX0_trainsBegun 5 = .ok (.aload_n 0, 1) := by decide +kernel
theorem dX0_trainsBegun_6 : decode cX0_trainsBegun 6 = .ok (.getfield 12, 3) := by decide +kernel
theorem dX0_trainsBegun_9 : decode cX0_trainsBegun 9 = .ok (.getfield 46, 3) := by decide +kernel
theorem dX0_trainsBegun_12 : decode cX0_trainsBegun 12 = .ok (.if_icmp .ge 23, 3) := by decide +kernel
theorem dX0_trainsBegun_15 : decode cX0_trainsBegun 15 = .ok (.aload_n 0, 1) := by decide +kernel
theorem dX0_trainsBegun_16 : decode cX0_trainsBegun 16 = .ok (.getfield 18, 3) := by decide +kernel
theorem dX0_trainsBegun_19 : decode cX0_trainsBegun 19 = .ok (.iload_n 2, 1) := by decide +kernel
theorem dX0_trainsBegun_20 : decode cX0_trainsBegun 20 = .ok (.iaload, 1) := by decide +kernel
theorem dX0_trainsBegun_21 : decode cX0_trainsBegun 21 = .ok (.bipush (-9), 2) := by decide +kernel
theorem dX0_trainsBegun_23 : decode cX0_trainsBegun 23 = .ok (.if_icmp .eq 6, 3) := by decide +kernel
theorem dX0_trainsBegun_26 : decode cX0_trainsBegun 26 = .ok (.iinc 1 1, 3) := by decide +kernel
theorem dX0_trainsBegun_29 : decode cX0_trainsBegun 29 = .ok (.iinc 2 1, 3) := by decide +kernel
theorem dX0_trainsBegun_32 : decode cX0_trainsBegun 32 = .ok (.goto (-28), 3) := by decide +kernel
theorem dX0_trainsBegun_35 : decode cX0_trainsBegun 35 = .ok (.iload_n 1, 1) := by decide +kernel
theorem dX0_trainsBegun_36 : decode cX0_trainsBegun 36 = .ok (.ireturn, 1) := by decide +kernel
theorem dX0_start_0 : decode cX0_start 0 = .ok (.aload_n 0, 1) := by decide +kernel
theorem dX0_start_1 : decode cX0_start 1 = .ok (.getfield 25, 3) := by decide +kernel
theorem dX0_start_4 : decode cX0_start 4 = .ok (.aload_n 0, 1) := by decide +kernel
theorem dX0_start_5 : decode cX0_start 5 = .ok (.getfield 12, 3) := by decide +kernel
theorem dX0_start_8 : decode cX0_start 8 = .ok (.invokevirtual 56, 3) := by decide +kernel
theorem dX0_start_11 : decode cX0_start 11 = .ok (.aload_n 0, 1) := by decide +kernel
theorem dX0_start_12 : decode cX0_start 12 = .ok (.iconst 0, 1) := by decide +kernel
theorem dX0_start_13 : decode cX0_start 13 = .ok (.putfield 59, 3) := by decide +kernel
theorem dX0_start_16 : decode cX0_start 16 = .ok (.iconst 0, 1) := by decide +kernel
theorem dX0_start_17 : decode cX0_start 17 = .ok (.istore_n 1, 1) := by decide +kernel
theorem dX0_start_18 : decode cX0_start 18 = .ok (.iload_n 1, 1) := by decide +kernel
theorem dX0_start_19 : decode cX0_start 19 = .ok (.aload_n 0, 1) := by decide +kernel
theorem dX0_start_20 : decode cX0_start 20 = .ok (.getfield 12, 3) := by decide +kernel
theorem dX0_start_23 : decode cX0_start 23 = .ok (.getfield 46, 3) := by decide +kernel
theorem dX0_start_26 : decode cX0_start 26 = .ok (.if_icmp .ge 39, 3) := by decide +kernel
theorem dX0_start_29 : decode cX0_start 29 = .ok (.aload_n 0, 1) := by decide +kernel
theorem dX0_start_30 : decode cX0_start 30 = .ok (.getfield 18, 3) := by decide +kernel
theorem dX0_start_33 : decode cX0_start 33 = .ok (.iload_n 1, 1) := by decide +kernel
theorem dX0_start_34 : decode cX0_start 34 = .ok (.bipush (-9), 2) := by decide +kernel
theorem dX0_start_36 : decode cX0_start 36 = .ok (.iastore, 1) := by decide +kernel
theorem dX0_start_37 : decode cX0_start 37 = .ok (.aload_n 0, 1) := by decide +kernel
theorem dX0_start_38 : decode cX0_start 38 = .ok (.getfield 29, 3) := by decide +kernel
theorem dX0_start_41 : decode cX0_start 41 = .ok (.iload_n 1, 1) := by decide +kernel
theorem dX0_start_42 : decode cX0_start 42 = .ok (.aload_n 0, 1) := by decide +kernel
theorem dX0_start_43 : decode cX0_start 43 = .ok (.getfield 12, 3) := by decide +kernel
theorem dX0_start_46 : decode cX0_start 46 = .ok (.aload_n 0, 1) := by decide +kernel
theorem dX0_start_47 : decode cX0_start 47 = .ok (.getfield 12, 3) := by decide +kernel
theorem dX0_start_50 : decode cX0_start 50 = .ok (.getfield 53, 3) := by decide +kernel
theorem dX0_start_53 : decode cX0_start 53 = .ok (.iload_n 1, 1) := by decide +kernel
theorem dX0_start_54 : decode cX0_start 54 = .ok (.iaload, 1) := by decide +kernel
theorem dX0_start_55 : decode cX0_start 55 = .ok (.invokevirtual 62, 3) := by decide +kernel
theorem dX0_start_58 : decode cX0_start 58 = .ok (.iastore, 1) := by decide +kernel
theorem dX0_start_59 : decode cX0_start 59 = .ok (.iinc 1 1, 3) := by decide +kernel
theorem dX0_start_62 : decode cX0_start 62 = .ok (.goto (-44), 3) := by decide +kernel
theorem dX0_start_65 : decode cX0_start 65 = .ok (.aload_n 0, 1) := by decide +kernel
theorem dX0_start_66 : decode cX0_start 66 = .ok (.invokevirtual 65, 3) := by decide +kernel
theorem dX0_start_69 : decode cX0_start 69 = .ok (.return_, 1) := by decide +kernel
theorem dX0_findTurns_0 : decode cX0_findTurns 0 = .ok (.aload_n 0, 1) := by decide +kernel
theorem dX0_findTurns_1 : decode cX0_findTurns 1 = .ok (.getfield 12, 3) := by decide +kernel
theorem dX0_findTurns_4 : decode cX0_findTurns 4 = .ok (.getfield 68, 3) := by decide +kernel
theorem dX0_findTurns_7 : decode cX0_findTurns 7 = .ok (.bipush 7, 2) := by decide +kernel
theorem dX0_findTurns_9 : decode cX0_findTurns 9 = .ok (.iaload, 1) := by decide +kernel
theorem dX0_findTurns_10 : decode cX0_findTurns 10 = .ok (.istore_n 1, 1) := by decide +kernel
theorem dX0_findTurns_11 : decode cX0_findTurns 11 = .ok (.iconst 0, 1) := by decide +kernel
theorem dX0_findTurns_12 : decode cX0_findTurns 12 = .ok (.istore_n 2, 1) := by decide +kernel
theorem dX0_findTurns_13 : decode cX0_findTurns 13 = .ok (.iload_n 2, 1) := by decide +kernel
theorem dX0_findTurns_14 : decode cX0_findTurns 14 = .ok (.aload_n 0, 1) := by decide +kernel
theorem dX0_findTurns_15 : decode cX0_findTurns 15 = .ok (.getfield 12, 3) := by decide +kernel
theorem dX0_findTurns_18 : decode cX0_findTurns 18 = .ok (.getfield 46, 3) := by decide +kernel
theorem dX0_findTurns_21 : decode cX0_findTurns 21 = .ok (.if_icmp .ge 92, 3) := by decide +kernel
theorem dX0_findTurns_24 : decode cX0_findTurns 24 = .ok (.iload_n 1, 1) := by decide +kernel
theorem dX0_findTurns_25 : decode cX0_findTurns 25 = .ok (.tableswitch 75 1 3 #[27, 46, 64], 27) := by decide +kernel
theorem dX0_findTurns_52 : decode cX0_findTurns 52 = .ok (.aload_n 0, 1) := by decide +kernel
theorem dX0_findTurns_53 : decode cX0_findTurns 53 = .ok (.getfield 32, 3) := by decide +kernel
theorem dX0_findTurns_56 : decode cX0_findTurns 56 = .ok (.iload_n 2, 1) := by decide +kernel
theorem dX0_findTurns_57 : decode cX0_findTurns 57 = .ok (.aload_n 0, 1) := by decide +kernel
theorem dX0_findTurns_58 : decode cX0_findTurns 58 = .ok (.getfield 12, 3) := by decide +kernel
theorem dX0_findTurns_61 : decode cX0_findTurns 61 = .ok (.getfield 53, 3) := by decide +kernel
theorem dX0_findTurns_64 : decode cX0_findTurns 64 = .ok (.iload_n 2, 1) := by decide +kernel
theorem dX0_findTurns_65 : decode cX0_findTurns 65 = .ok (.iaload, 1) := by decide +kernel
theorem dX0_findTurns_66 : decode cX0_findTurns 66 = .ok (.ineg, 1) := by decide +kernel
theorem dX0_findTurns_67 : decode cX0_findTurns 67 = .ok (.iastore, 1) := by decide +kernel
theorem dX0_findTurns_68 : decode cX0_findTurns 68 = .ok (.goto 39, 3) := by decide +kernel
theorem dX0_findTurns_71 : decode cX0_findTurns 71 = .ok (.aload_n 0, 1) := by decide +kernel
theorem dX0_findTurns_72 : decode cX0_findTurns 72 = .ok (.getfield 32, 3) := by decide +kernel
theorem dX0_findTurns_75 : decode cX0_findTurns 75 = .ok (.iload_n 2, 1) := by decide +kernel
theorem dX0_findTurns_76 : decode cX0_findTurns 76 = .ok (.aload_n 0, 1) := by decide +kernel
theorem dX0_findTurns_77 : decode cX0_findTurns 77 = .ok (.getfield 12, 3) := by decide +kernel
theorem dX0_findTurns_80 : decode cX0_findTurns 80 = .ok (.getfield 53, 3) := by decide +kernel
theorem dX0_findTurns_83 : decode cX0_findTurns 83 = .ok (.iload_n 2, 1) := by decide +kernel
theorem dX0_findTurns_84 : decode cX0_findTurns 84 = .ok (.iaload, 1) := by decide +kernel
theorem dX0_findTurns_85 : decode cX0_findTurns 85 = .ok (.iastore, 1) := by decide +kernel
theorem dX0_findTurns_86 : decode cX0_findTurns 86 = .ok (.goto 21, 3) := by decide +kernel
theorem dX0_findTurns_89 : decode cX0_findTurns 89 = .ok (.aload_n 0, 1) := by decide +kernel
theorem dX0_findTurns_90 : decode cX0_findTurns 90 = .ok (.getfield 32, 3) := by decide +kernel
theorem dX0_findTurns_93 : decode cX0_findTurns 93 = .ok (.iload_n 2, 1) := by decide +kernel
theorem dX0_findTurns_94 : decode cX0_findTurns 94 = .ok (.bipush 8, 2) := by decide +kernel
theorem dX0_findTurns_96 : decode cX0_findTurns 96 = .ok (.iastore, 1) := by decide +kernel
theorem dX0_findTurns_97 : decode cX0_findTurns 97 = .ok (.goto 10, 3) := by decide +kernel
theorem dX0_findTurns_100 : decode cX0_findTurns 100 = .ok (.aload_n 0, 1) := by decide +kernel
theorem dX0_findTurns_101 : decode cX0_findTurns 101 = .ok (.getfield 32, 3) := by decide +kernel
theorem dX0_findTurns_104 : decode cX0_findTurns 104 = .ok (.iload_n 2, 1) := by decide +kernel
theorem dX0_findTurns_105 : decode cX0_findTurns 105 = .ok (.iconst 0, 1) := by decide +kernel
theorem dX0_findTurns_106 : decode cX0_findTurns 106 = .ok (.iastore, 1) := by decide +kernel
theorem dX0_findTurns_107 : decode cX0_findTurns 107 = .ok (.iinc 2 1, 3) := by decide +kernel
theorem dX0_findTurns_110 : decode cX0_findTurns 110 = .ok (.goto (-97), 3) := by decide +kernel
theorem dX0_findTurns_113 : decode cX0_findTurns 113 = .ok (.iconst 0, 1) := by decide +kernel
theorem dX0_findTurns_114 : decode cX0_findTurns 114 = .ok (.istore_n 2, 1) := by decide +kernel
theorem dX0_findTurns_115 : decode cX0_findTurns 115 = .ok (.iload_n 1, 1) := by decide +kernel
theorem dX0_findTurns_116 : decode cX0_findTurns 116 = .ok (.iconst 3, 1) := by decide +kernel
theorem dX0_findTurns_117 : decode cX0_findTurns 117 = .ok (.if_icmp .ne 48, 3) := by decide +kernel
theorem dX0_findTurns_120 : decode cX0_findTurns 120 = .ok (.iload_n 2, 1) := by decide +kernel
theorem dX0_findTurns_121 : decode cX0_findTurns 121 = .ok (.aload_n 0, 1) := by decide +kernel
theorem dX0_findTurns_122 : decode cX0_findTurns 122 = .ok (.getfield 12, 3) := by decide +kernel
theorem dX0_findTurns_125 : decode cX0_findTurns 125 = .ok (.getfield 71, 3) := by decide +kernel
theorem dX0_findTurns_128 : decode cX0_findTurns 128 = .ok (.if_icmp .ge 37, 3) := by decide +kernel
theorem dX0_findTurns_131 : decode cX0_findTurns 131 = .ok (.aload_n 0, 1) := by decide +kernel
theorem dX0_findTurns_132 : decode cX0_findTurns 132 = .ok (.getfield 12, 3) := by decide +kernel
theorem dX0_findTurns_135 : decode cX0_findTurns 135 = .ok (.getfield 74, 3) := by decide +kernel
theorem dX0_findTurns_138 : decode cX0_findTurns 138 = .ok (.iload_n 2, 1) := by decide +kernel
theorem dX0_findTurns_139 : decode cX0_findTurns 139 = .ok (.iaload, 1) := by decide +kernel
theorem dX0_findTurns_140 : decode cX0_findTurns 140 = .ok (.istore_n 3, 1) := by decide +kernel
theorem dX0_findTurns_141 : decode cX0_findTurns 141 = .ok (.aload_n 0, 1) := by decide +kernel
theorem dX0_findTurns_142 : decode cX0_findTurns 142 = .ok (.getfield 12, 3) := by decide +kernel
theorem dX0_findTurns_145 : decode cX0_findTurns 145 = .ok (.iload_n 3, 1) := by decide +kernel
theorem dX0_findTurns_146 : decode cX0_findTurns 146 = .ok (.invokevirtual 77, 3) := by decide +kernel
theorem dX0_findTurns_149 : decode cX0_findTurns 149 = .ok (.ifCond .eq 10, 3) := by decide +kernel
theorem dX0_findTurns_152 : decode cX0_findTurns 152 = .ok (.aload_n 0, 1) := by decide +kernel
theorem dX0_findTurns_153 : decode cX0_findTurns 153 = .ok (.getfield 32, 3) := by decide +kernel
theorem dX0_findTurns_156 : decode cX0_findTurns 156 = .ok (.iload_n 3, 1) := by decide +kernel
theorem dX0_findTurns_157 : decode cX0_findTurns 157 = .ok (.iload_n 2, 1) := by decide +kernel
theorem dX0_findTurns_158 : decode cX0_findTurns 158 = .ok (.iastore, 1) := by decide +kernel
theorem dX0_findTurns_159 : decode cX0_findTurns 159 = .ok (.iinc 2 1, 3) := by decide +kernel
theorem dX0_findTurns_162 : decode cX0_findTurns 162 = .ok (.goto (-47), 3) := by decide +kernel
theorem dX0_findTurns_165 : decode cX0_findTurns 165 = .ok (.return_, 1) := by decide +kernel
theorem dX0_beginOne_0 : decode cX0_beginOne 0 = .ok (.aload_n 0, 1) := by decide +kernel
theorem dX0_beginOne_1 : decode cX0_beginOne 1 = .ok (.getfield 25, 3) := by decide +kernel
theorem dX0_beginOne_4 : decode cX0_beginOne 4 = .ok (.getfield 80, 3) := by decide +kernel
theorem dX0_beginOne_7 : decode cX0_beginOne 7 = .ok (.iload_n 1, 1) := by decide +kernel
theorem dX0_beginOne_8 : decode cX0_beginOne 8 = .ok (.if_icmp .gt 31, 3) := by decide +kernel
theorem dX0_beginOne_11 : decode cX0_beginOne 11 = .ok (.aload_n 0, 1) := by decide +kernel
theorem dX0_beginOne_12 : decode cX0_beginOne 12 = .ok (.iload_n 1, 1) := by decide +kernel
theorem dX0_beginOne_13 : decode cX0_beginOne 13 = .ok (.invokevirtual 83, 3) := by decide +kernel
theorem dX0_beginOne_16 : decode cX0_beginOne 16 = .ok (.ifCond .ne 23, 3) := by decide +kernel
theorem dX0_beginOne_19 : decode cX0_beginOne 19 = .ok (.aload_n 0, 1) := by decide +kernel
theorem dX0_beginOne_20 : decode cX0_beginOne 20 = .ok (.getfield 25, 3) := by decide +kernel
theorem dX0_beginOne_23 : decode cX0_beginOne 23 = .ok (.iload_n 1, 1) := by decide +kernel
theorem dX0_beginOne_24 : decode cX0_beginOne 24 = .ok (.invokevirtual 86, 3) := by decide +kernel
theorem dX0_beginOne_27 : decode cX0_beginOne 27 = .ok (.aload_n 0, 1) := by decide +kernel
theorem dX0_beginOne_28 : decode cX0_beginOne 28 = .ok (.dup, 1) := by decide +kernel
theorem dX0_beginOne_29 : decode cX0_beginOne 29 = .ok (.getfield 59, 3) := by decide +kernel
theorem dX0_beginOne_32 : decode cX0_beginOne 32 = .ok (.iconst 1, 1) := by decide +kernel
theorem dX0_beginOne_33 : decode cX0_beginOne 33 = .ok (.iadd, 1) := by decide +kernel
theorem dX0_beginOne_34 : decode cX0_beginOne 34 = .ok (.putfield 59, 3) := by decide +kernel
theorem dX0_beginOne_37 : decode cX0_beginOne 37 = .ok (.iconst 1, 1) := by decide +kernel
theorem dX0_beginOne_38 : decode cX0_beginOne 38 = .ok (.ireturn, 1) := by decide +kernel
theorem dX0_beginOne_39 : decode cX0_beginOne 39 = .ok (.aload_n 0, 1) := by decide +kernel
theorem dX0_beginOne_40 : decode cX0_beginOne 40 = .ok (.iload_n 1, 1) := by decide +kernel
theorem dX0_beginOne_41 : decode cX0_beginOne 41 = .ok (.invokevirtual 90, 3) := by decide +kernel
theorem dX0_beginOne_44 : decode cX0_beginOne 44 = .ok (.istore_n 2, 1) := by decide +kernel
theorem dX0_beginOne_45 : decode cX0_beginOne 45 = .ok (.iload_n 2, 1) := by decide +kernel
theorem dX0_beginOne_46 : decode cX0_beginOne 46 = .ok (.ifCond .ge 5, 3) := by decide +kernel
theorem dX0_beginOne_49 : decode cX0_beginOne 49 = .ok (.iconst 0, 1) := by decide +kernel
theorem dX0_beginOne_50 : decode cX0_beginOne 50 = .ok (.ireturn, 1) := by decide +kernel
theorem dX0_beginOne_51 : decode cX0_beginOne 51 = .ok (.aload_n 0, 1) := by decide +kernel
theorem dX0_beginOne_52 : decode cX0_beginOne 52 = .ok (.getfield 25, 3) := by decide +kernel
theorem dX0_beginOne_55 : decode cX0_beginOne 55 = .ok (.aload_n 0, 1) := by decide +kernel
theorem dX0_beginOne_56 : decode cX0_beginOne 56 = .ok (.getfield 29, 3) := by decide +kernel
theorem dX0_beginOne_59 : decode cX0_beginOne 59 = .ok (.iload_n 2, 1) := by decide +kernel
theorem dX0_beginOne_60 : decode cX0_beginOne 60 = .ok (.iaload, 1) := by decide +kernel
theorem dX0_beginOne_61 : decode cX0_beginOne 61 = .ok (.iload_n 1, 1) := by decide +kernel
theorem dX0_beginOne_62 : decode cX0_beginOne 62 = .ok (.invokevirtual 93, 3) := by decide +kernel
theorem dX0_beginOne_65 : decode cX0_beginOne 65 = .ok (.aload_n 0, 1) := by decide +kernel
theorem dX0_beginOne_66 : decode cX0_beginOne 66 = .ok (.getfield 18, 3) := by decide +kernel
theorem dX0_beginOne_69 : decode cX0_beginOne 69 = .ok (.iload_n 2, 1) := by decide +kernel
theorem dX0_beginOne_70 : decode cX0_beginOne 70 = .ok (.iload_n 1, 1) := by decide +kernel
theorem dX0_beginOne_71 : decode cX0_beginOne 71 = .ok (.iastore, 1) := by decide +kernel
theorem dX0_beginOne_72 : decode cX0_beginOne 72 = .ok (.iconst 1, 1) := by decide +kernel
theorem dX0_beginOne_73 : decode cX0_beginOne 73 = .ok (.ireturn, 1) := by decide +kernel
theorem dX0_hangs_0 : decode cX0_hangs 0 = .ok (.aload_n 0, 1) := by decide +kernel
theorem dX0_hangs_1 : decode cX0_hangs 1 = .ok (.getfield 12, 3) := by decide +kernel
theorem dX0_hangs_4 : decode cX0_hangs 4 = .ok (.getfield 68, 3) := by decide +kernel
theorem dX0_hangs_7 : decode cX0_hangs 7 = .ok (.bipush 8, 2) := by decide +kernel
theorem dX0_hangs_9 : decode cX0_hangs 9 = .ok (.iaload, 1) := by decide +kernel
theorem dX0_hangs_10 : decode cX0_hangs 10 = .ok (.iconst 1, 1) := by decide +kernel
theorem dX0_hangs_11 : decode cX0_hangs 11 = .ok (.if_icmp .ne 26, 3) := by decide +kernel
theorem dX0_hangs_14 : decode cX0_hangs 14 = .ok (.aload_n 0, 1) := by decide +kernel
theorem dX0_hangs_15 : decode cX0_hangs 15 = .ok (.getfield 25, 3) := by decide +kernel
theorem dX0_hangs_18 : decode cX0_hangs 18 = .ok (.getfield 97, 3) := by decide +kernel
theorem dX0_hangs_21 : decode cX0_hangs 21 = .ok (.iload_n 1, 1) := by decide +kernel
theorem dX0_hangs_22 : decode cX0_hangs 22 = .ok (.if_icmp .gt 15, 3) := by decide +kernel
theorem dX0_hangs_25 : decode cX0_hangs 25 = .ok (.aload_n 0, 1) := by decide +kernel
theorem dX0_hangs_26 : decode cX0_hangs 26 = .ok (.iload_n 1, 1) := by decide +kernel
theorem dX0_hangs_27 : decode cX0_hangs 27 = .ok (.invokevirtual 100, 3) := by decide +kernel
theorem dX0_hangs_30 : decode cX0_hangs 30 = .ok (.ifCond .eq 7, 3) := by decide +kernel
theorem dX0_hangs_33 : decode cX0_hangs 33 = .ok (.iconst 1, 1) := by decide +kernel
theorem dX0_hangs_34 : decode cX0_hangs 34 = .ok (.goto 4, 3) := by decide +kernel
theorem dX0_hangs_37 : decode cX0_hangs 37 = .ok (.iconst 0, 1) := by decide +kernel
theorem dX0_hangs_38 : decode cX0_hangs 38 = .ok (.ireturn, 1) := by decide +kernel
theorem dX0_someWaits_0 : decode cX0_someWaits 0 = .ok (.iconst 0, 1) := by decide +kernel
theorem dX0_someWaits_1 : decode cX0_someWaits 1 = .ok (.istore_n 2, 1) := by decide +kernel
theorem dX0_someWaits_2 : decode cX0_someWaits 2 = .ok (.iload_n 2, 1) := by decide +kernel
theorem dX0_someWaits_3 : decode cX0_someWaits 3 = .ok (.aload_n 0, 1) := by decide +kernel
theorem dX0_someWaits_4 : decode cX0_someWaits 4 = .ok (.getfield 12, 3) := by decide +kernel
theorem dX0_someWaits_7 : decode cX0_someWaits 7 = .ok (.getfield 46, 3) := by decide +kernel
theorem dX0_someWaits_10 : decode cX0_someWaits 10 = .ok (.if_icmp .ge 32, 3) := by decide +kernel
theorem dX0_someWaits_13 : decode cX0_someWaits 13 = .ok (.aload_n 0, 1) := by decide +kernel
theorem dX0_someWaits_14 : decode cX0_someWaits 14 = .ok (.iload_n 2, 1) := by decide +kernel
theorem dX0_someWaits_15 : decode cX0_someWaits 15 = .ok (.invokevirtual 103, 3) := by decide +kernel
theorem dX0_someWaits_18 : decode cX0_someWaits 18 = .ok (.ifCond .eq 18, 3) := by decide +kernel
theorem dX0_someWaits_21 : decode cX0_someWaits 21 = .ok (.aload_n 0, 1) := by decide +kernel
theorem dX0_someWaits_22 : decode cX0_someWaits 22 = .ok (.getfield 12, 3) := by decide +kernel
theorem dX0_someWaits_25 : decode cX0_someWaits 25 = .ok (.getfield 50, 3) := by decide +kernel
theorem dX0_someWaits_28 : decode cX0_someWaits 28 = .ok (.iload_n 2, 1) := by decide +kernel
theorem dX0_someWaits_29 : decode cX0_someWaits 29 = .ok (.iaload, 1) := by decide +kernel
theorem dX0_someWaits_30 : decode cX0_someWaits 30 = .ok (.iload_n 1, 1) := by decide +kernel
theorem dX0_someWaits_31 : decode cX0_someWaits 31 = .ok (.if_icmp .gt 5, 3) := by decide +kernel
theorem dX0_someWaits_34 : decode cX0_someWaits 34 = .ok (.iconst 1, 1) := by decide +kernel
theorem dX0_someWaits_35 : decode cX0_someWaits 35 = .ok (.ireturn, 1) := by decide +kernel
theorem dX0_someWaits_36 : decode cX0_someWaits 36 = .ok (.iinc 2 1, 3) := by decide +kernel
theorem dX0_someWaits_39 : decode cX0_someWaits 39 = .ok (.goto (-37), 3) := by decide +kernel
theorem dX0_someWaits_42 : decode cX0_someWaits 42 = .ok (.iconst 0, 1) := by decide +kernel
theorem dX0_someWaits_43 : decode cX0_someWaits 43 = .ok (.ireturn, 1) := by decide +kernel
theorem dX0_firstThatCan_0 : decode cX0_firstThatCan 0 = .ok (.iconst (-1), 1) := by decide +kernel
theorem dX0_firstThatCan_1 : decode cX0_firstThatCan 1 = .ok (.istore_n 2, 1) := by decide +kernel
theorem dX0_firstThatCan_2 : decode cX0_firstThatCan 2 = .ok (.iconst 0, 1) := by decide +kernel
theorem dX0_firstThatCan_3 : decode cX0_firstThatCan 3 = .ok (.istore_n 3, 1) := by decide +kernel
theorem dX0_firstThatCan_4 : decode cX0_firstThatCan 4 = .ok (.iload_n 3, 1) := by decide +kernel
theorem dX0_firstThatCan_5 : decode cX0_firstThatCan 5 = .ok (.aload_n 0, 1) := by decide +kernel
theorem dX0_firstThatCan_6 : decode cX0_firstThatCan 6 = .ok (.getfield 12, 3) := by decide +kernel
theorem dX0_firstThatCan_9 : decode cX0_firstThatCan 9 = .ok (.getfield 46, 3) := by decide +kernel
theorem dX0_firstThatCan_12 : decode cX0_firstThatCan 12 = .ok (.if_icmp .ge 33, 3) := by decide +kernel
theorem dX0_firstThatCan_15 : decode cX0_firstThatCan 15 = .ok (.aload_n 0, 1) := by decide +kernel
theorem dX0_firstThatCan_16 : decode cX0_firstThatCan 16 = .ok (.iload_n 3, 1) := by decide +kernel
theorem dX0_firstThatCan_17 : decode cX0_firstThatCan 17 = .ok (.invokevirtual 106, 3) := by decide +kernel
theorem dX0_firstThatCan_20 : decode cX0_firstThatCan 20 = .ok (.iload_n 1, 1) := by decide +kernel
theorem dX0_firstThatCan_21 : decode cX0_firstThatCan 21 = .ok (.if_icmp .gt 18, 3) := by decide +kernel
theorem dX0_firstThatCan_24 : decode cX0_firstThatCan 24 = .ok (.iload_n 2, 1) := by decide +kernel
theorem dX0_firstThatCan_25 : decode cX0_firstThatCan 25 = .ok (.ifCond .lt 12, 3) := by decide +kernel
theorem dX0_firstThatCan_28 : decode cX0_firstThatCan 28 = .ok (.aload_n 0, 1) := by decide +kernel
theorem dX0_firstThatCan_29 : decode cX0_firstThatCan 29 = .ok (.iload_n 3, 1) := by decide +kernel
theorem dX0_firstThatCan_30 : decode cX0_firstThatCan 30 = .ok (.iload_n 2, 1) := by decide +kernel
theorem dX0_firstThatCan_31 : decode cX0_firstThatCan 31 = .ok (.invokevirtual 109, 3) := by decide +kernel
theorem dX0_firstThatCan_34 : decode cX0_firstThatCan 34 = .ok (.ifCond .eq 5, 3) := by decide +kernel
theorem dX0_firstThatCan_37 : decode cX0_firstThatCan 37 = .ok (.iload_n 3, 1) := by decide +kernel
theorem dX0_firstThatCan_38 : decode cX0_firstThatCan 38 = .ok (.istore_n 2, 1) := by decide +kernel
theorem dX0_firstThatCan_39 : decode cX0_firstThatCan 39 = .ok (.iinc 3 1, 3) := by decide +kernel
theorem dX0_firstThatCan_42 : decode cX0_firstThatCan 42 = .ok (.goto (-38), 3) := by decide +kernel
theorem dX0_firstThatCan_45 : decode cX0_firstThatCan 45 = .ok (.iload_n 2, 1) := by decide +kernel
theorem dX0_firstThatCan_46 : decode cX0_firstThatCan 46 = .ok (.ireturn, 1) := by decide +kernel
theorem dX0_isToCome_0 : decode cX0_isToCome 0 = .ok (.aload_n 0, 1) := by decide +kernel
theorem dX0_isToCome_1 : decode cX0_isToCome 1 = .ok (.getfield 18, 3) := by decide +kernel
theorem dX0_isToCome_4 : decode cX0_isToCome 4 = .ok (.iload_n 1, 1) := by decide +kernel
theorem dX0_isToCome_5 : decode cX0_isToCome 5 = .ok (.iaload, 1) := by decide +kernel
theorem dX0_isToCome_6 : decode cX0_isToCome 6 = .ok (.bipush (-9), 2) := by decide +kernel
theorem dX0_isToCome_8 : decode cX0_isToCome 8 = .ok (.if_icmp .ne 17, 3) := by decide +kernel
theorem dX0_isToCome_11 : decode cX0_isToCome 11 = .ok (.aload_n 0, 1) := by decide +kernel
theorem dX0_isToCome_12 : decode cX0_isToCome 12 = .ok (.getfield 29, 3) := by decide +kernel
theorem dX0_isToCome_15 : decode cX0_isToCome 15 = .ok (.iload_n 1, 1) := by decide +kernel
theorem dX0_isToCome_16 : decode cX0_isToCome 16 = .ok (.iaload, 1) := by decide +kernel
theorem dX0_isToCome_17 : decode cX0_isToCome 17 = .ok (.iconst 3, 1) := by decide +kernel
theorem dX0_isToCome_18 : decode cX0_isToCome 18 = .ok (.if_icmp .eq 7, 3) := by decide +kernel
theorem dX0_isToCome_21 : decode cX0_isToCome 21 = .ok (.iconst 1, 1) := by decide +kernel
theorem dX0_isToCome_22 : decode cX0_isToCome 22 = .ok (.goto 4, 3) := by decide +kernel
theorem dX0_isToCome_25 : decode cX0_isToCome 25 = .ok (.iconst 0, 1) := by decide +kernel
theorem dX0_isToCome_26 : decode cX0_isToCome 26 = .ok (.ireturn, 1) := by decide +kernel
theorem dX0_canFrom_0 : decode cX0_canFrom 0 = .ok (.aload_n 0, 1) := by decide +kernel
theorem dX0_canFrom_1 : decode cX0_canFrom 1 = .ok (.iload_n 1, 1) := by decide +kernel
theorem dX0_canFrom_2 : decode cX0_canFrom 2 = .ok (.invokevirtual 103, 3) := by decide +kernel
theorem dX0_canFrom_5 : decode cX0_canFrom 5 = .ok (.ifCond .eq 32, 3) := by decide +kernel
theorem dX0_canFrom_8 : decode cX0_canFrom 8 = .ok (.aload_n 0, 1) := by decide +kernel
theorem dX0_canFrom_9 : decode cX0_canFrom 9 = .ok (.getfield 12, 3) := by decide +kernel
theorem dX0_canFrom_12 : decode cX0_canFrom 12 = .ok (.getfield 50, 3) := by decide +kernel
theorem dX0_canFrom_15 : decode cX0_canFrom 15 = .ok (.iload_n 1, 1) := by decide +kernel
theorem dX0_canFrom_16 : decode cX0_canFrom 16 = .ok (.iaload, 1) := by decide +kernel
theorem dX0_canFrom_17 : decode cX0_canFrom 17 = .ok (.aload_n 0, 1) := by decide +kernel
theorem dX0_canFrom_18 : decode cX0_canFrom 18 = .ok (.getfield 25, 3) := by decide +kernel
theorem dX0_canFrom_21 : decode cX0_canFrom 21 = .ok (.getfield 113, 3) := by decide +kernel
theorem dX0_canFrom_24 : decode cX0_canFrom 24 = .ok (.aload_n 0, 1) := by decide +kernel
theorem dX0_canFrom_25 : decode cX0_canFrom 25 = .ok (.getfield 29, 3) := by decide +kernel
theorem dX0_canFrom_28 : decode cX0_canFrom 28 = .ok (.iload_n 1, 1) := by decide +kernel
theorem dX0_canFrom_29 : decode cX0_canFrom 29 = .ok (.iaload, 1) := by decide +kernel
theorem dX0_canFrom_30 : decode cX0_canFrom 30 = .ok (.iaload, 1) := by decide +kernel
theorem dX0_canFrom_31 : decode cX0_canFrom 31 = .ok (.invokestatic 116, 3) := by decide +kernel
theorem dX0_canFrom_34 : decode cX0_canFrom 34 = .ok (.goto 5, 3) := by decide +kernel
theorem dX0_canFrom_37 : decode cX0_canFrom 37 = .ok (.ldc 122, 2) := by decide +kernel
theorem dX0_canFrom_39 : decode cX0_canFrom 39 = .ok (.ireturn, 1) := by decide +kernel
theorem dX0_isBefore_0 : decode cX0_isBefore 0 = .ok (.aload_n 0, 1) := by decide +kernel
theorem dX0_isBefore_1 : decode cX0_isBefore 1 = .ok (.getfield 32, 3) := by decide +kernel
theorem dX0_isBefore_4 : decode cX0_isBefore 4 = .ok (.iload_n 1, 1) := by decide +kernel
theorem dX0_isBefore_5 : decode cX0_isBefore 5 = .ok (.iaload, 1) := by decide +kernel
theorem dX0_isBefore_6 : decode cX0_isBefore 6 = .ok (.aload_n 0, 1) := by decide +kernel
theorem dX0_isBefore_7 : decode cX0_isBefore 7 = .ok (.getfield 32, 3) := by decide +kernel
theorem dX0_isBefore_10 : decode cX0_isBefore 10 = .ok (.iload_n 2, 1) := by decide +kernel
theorem dX0_isBefore_11 : decode cX0_isBefore 11 = .ok (.iaload, 1) := by decide +kernel
theorem dX0_isBefore_12 : decode cX0_isBefore 12 = .ok (.if_icmp .eq 24, 3) := by decide +kernel
theorem dX0_isBefore_15 : decode cX0_isBefore 15 = .ok (.aload_n 0, 1) := by decide +kernel
theorem dX0_isBefore_16 : decode cX0_isBefore 16 = .ok (.getfield 32, 3) := by decide +kernel
theorem dX0_isBefore_19 : decode cX0_isBefore 19 = .ok (.iload_n 1, 1) := by decide +kernel
theorem dX0_isBefore_20 : decode cX0_isBefore 20 = .ok (.iaload, 1) := by decide +kernel
theorem dX0_isBefore_21 : decode cX0_isBefore 21 = .ok (.aload_n 0, 1) := by decide +kernel
theorem dX0_isBefore_22 : decode cX0_isBefore 22 = .ok (.getfield 32, 3) := by decide +kernel
theorem dX0_isBefore_25 : decode cX0_isBefore 25 = .ok (.iload_n 2, 1) := by decide +kernel
theorem dX0_isBefore_26 : decode cX0_isBefore 26 = .ok (.iaload, 1) := by decide +kernel
theorem dX0_isBefore_27 : decode cX0_isBefore 27 = .ok (.if_icmp .ge 7, 3) := by decide +kernel
theorem dX0_isBefore_30 : decode cX0_isBefore 30 = .ok (.iconst 1, 1) := by decide +kernel
theorem dX0_isBefore_31 : decode cX0_isBefore 31 = .ok (.goto 4, 3) := by decide +kernel
theorem dX0_isBefore_34 : decode cX0_isBefore 34 = .ok (.iconst 0, 1) := by decide +kernel
theorem dX0_isBefore_35 : decode cX0_isBefore 35 = .ok (.ireturn, 1) := by decide +kernel
theorem dX0_isBefore_36 : decode cX0_isBefore 36 = .ok (.aload_n 0, 1) := by decide +kernel
theorem dX0_isBefore_37 : decode cX0_isBefore 37 = .ok (.getfield 12, 3) := by decide +kernel
theorem dX0_isBefore_40 : decode cX0_isBefore 40 = .ok (.getfield 50, 3) := by decide +kernel
theorem dX0_isBefore_43 : decode cX0_isBefore 43 = .ok (.iload_n 1, 1) := by decide +kernel
theorem dX0_isBefore_44 : decode cX0_isBefore 44 = .ok (.iaload, 1) := by decide +kernel
theorem dX0_isBefore_45 : decode cX0_isBefore 45 = .ok (.aload_n 0, 1) := by decide +kernel
theorem dX0_isBefore_46 : decode cX0_isBefore 46 = .ok (.getfield 12, 3) := by decide +kernel
theorem dX0_isBefore_49 : decode cX0_isBefore 49 = .ok (.getfield 50, 3) := by decide +kernel
theorem dX0_isBefore_52 : decode cX0_isBefore 52 = .ok (.iload_n 2, 1) := by decide +kernel
theorem dX0_isBefore_53 : decode cX0_isBefore 53 = .ok (.iaload, 1) := by decide +kernel
theorem dX0_isBefore_54 : decode cX0_isBefore 54 = .ok (.if_icmp .eq 30, 3) := by decide +kernel
theorem dX0_isBefore_57 : decode cX0_isBefore 57 = .ok (.aload_n 0, 1) := by decide +kernel
theorem dX0_isBefore_58 : decode cX0_isBefore 58 = .ok (.getfield 12, 3) := by decide +kernel
theorem dX0_isBefore_61 : decode cX0_isBefore 61 = .ok (.getfield 50, 3) := by decide +kernel
theorem dX0_isBefore_64 : decode cX0_isBefore 64 = .ok (.iload_n 1, 1) := by decide +kernel
theorem dX0_isBefore_65 : decode cX0_isBefore 65 = .ok (.iaload, 1) := by decide +kernel
theorem dX0_isBefore_66 : decode cX0_isBefore 66 = .ok (.aload_n 0, 1) := by decide +kernel
theorem dX0_isBefore_67 : decode cX0_isBefore 67 = .ok (.getfield 12, 3) := by decide +kernel
theorem dX0_isBefore_70 : decode cX0_isBefore 70 = .ok (.getfield 50, 3) := by decide +kernel
theorem dX0_isBefore_73 : decode cX0_isBefore 73 = .ok (.iload_n 2, 1) := by decide +kernel
theorem dX0_isBefore_74 : decode cX0_isBefore 74 = .ok (.iaload, 1) := by decide +kernel
theorem dX0_isBefore_75 : decode cX0_isBefore 75 = .ok (.if_icmp .ge 7, 3) := by decide +kernel
theorem dX0_isBefore_78 : decode cX0_isBefore 78 = .ok (.iconst 1, 1) := by decide +kernel
theorem dX0_isBefore_79 : decode cX0_isBefore 79 = .ok (.goto 4, 3) := by decide +kernel
theorem dX0_isBefore_82 : decode cX0_isBefore 82 = .ok (.iconst 0, 1) := by decide +kernel
theorem dX0_isBefore_83 : decode cX0_isBefore 83 = .ok (.ireturn, 1) := by decide +kernel
theorem dX0_isBefore_84 : decode cX0_isBefore 84 = .ok (.iload_n 1, 1) := by decide +kernel
theorem dX0_isBefore_85 : decode cX0_isBefore 85 = .ok (.iload_n 2, 1) := by decide +kernel
theorem dX0_isBefore_86 : decode cX0_isBefore 86 = .ok (.if_icmp .ge 7, 3) := by decide +kernel
theorem dX0_isBefore_89 : decode cX0_isBefore 89 = .ok (.iconst 1, 1) := by decide +kernel
theorem dX0_isBefore_90 : decode cX0_isBefore 90 = .ok (.goto 4, 3) := by decide +kernel
theorem dX0_isBefore_93 : decode cX0_isBefore 93 = .ok (.iconst 0, 1) := by decide +kernel
theorem dX0_isBefore_94 : decode cX0_isBefore 94 = .ok (.ireturn, 1) := by decide +kernel
theorem dX0_nextChance_0 : decode cX0_nextChance 0 = .ok (.aload_n 0, 1) := by decide +kernel
theorem dX0_nextChance_1 : decode cX0_nextChance 1 = .ok (.getfield 25, 3) := by decide +kernel
theorem dX0_nextChance_4 : decode cX0_nextChance 4 = .ok (.getfield 80, 3) := by decide +kernel
theorem dX0_nextChance_7 : decode cX0_nextChance 7 = .ok (.iload_n 1, 1) := by decide +kernel
theorem dX0_nextChance_8 : decode cX0_nextChance 8 = .ok (.if_icmp .le 13, 3) := by decide +kernel
theorem dX0_nextChance_11 : decode cX0_nextChance 11 = .ok (.aload_n 0, 1) := by decide +kernel
theorem dX0_nextChance_12 : decode cX0_nextChance 12 = .ok (.getfield 25, 3) := by decide +kernel
theorem dX0_nextChance_15 : decode cX0_nextChance 15 = .ok (.getfield 80, 3) := by decide +kernel
theorem dX0_nextChance_18 : decode cX0_nextChance 18 = .ok (.goto 5, 3) := by decide +kernel
theorem dX0_nextChance_21 : decode cX0_nextChance 21 = .ok (.ldc 122, 2) := by decide +kernel
theorem dX0_nextChance_23 : decode cX0_nextChance 23 = .ok (.istore_n 2, 1) := by decide +kernel
theorem dX0_nextChance_24 : decode cX0_nextChance 24 = .ok (.iconst 0, 1) := by decide +kernel
theorem dX0_nextChance_25 : decode cX0_nextChance 25 = .ok (.istore_n 3, 1) := by decide +kernel
theorem dX0_nextChance_26 : decode cX0_nextChance 26 = .ok (.iload_n 3, 1) := by decide +kernel
theorem dX0_nextChance_27 : decode cX0_nextChance 27 = .ok (.aload_n 0, 1) := by decide +kernel
theorem dX0_nextChance_28 : decode cX0_nextChance 28 = .ok (.getfield 12, 3) := by decide +kernel
theorem dX0_nextChance_31 : decode cX0_nextChance 31 = .ok (.getfield 46, 3) := by decide +kernel
theorem dX0_nextChance_34 : decode cX0_nextChance 34 = .ok (.if_icmp .ge 19, 3) := by decide +kernel
theorem dX0_nextChance_37 : decode cX0_nextChance 37 = .ok (.iload_n 2, 1) := by decide +kernel
theorem dX0_nextChance_38 : decode cX0_nextChance 38 = .ok (.aload_n 0, 1) := by decide +kernel
theorem dX0_nextChance_39 : decode cX0_nextChance 39 = .ok (.iload_n 3, 1) := by decide +kernel
theorem dX0_nextChance_40 : decode cX0_nextChance 40 = .ok (.invokevirtual 106, 3) := by decide +kernel
theorem dX0_nextChance_43 : decode cX0_nextChance 43 = .ok (.invokestatic 123, 3) := by decide +kernel
theorem dX0_nextChance_46 : decode cX0_nextChance 46 = .ok (.istore_n 2, 1) := by decide +kernel
theorem dX0_nextChance_47 : decode cX0_nextChance 47 = .ok (.iinc 3 1, 3) := by decide +kernel
theorem dX0_nextChance_50 : decode cX0_nextChance 50 = .ok (.goto (-24), 3) := by decide +kernel
theorem dX0_nextChance_53 : decode cX0_nextChance 53 = .ok (.iload_n 2, 1) := by decide +kernel
theorem dX0_nextChance_54 : decode cX0_nextChance 54 = .ok (.iload_n 1, 1) := by decide +kernel
theorem dX0_nextChance_55 : decode cX0_nextChance 55 = .ok (.iconst 1, 1) := by decide +kernel
theorem dX0_nextChance_56 : decode cX0_nextChance 56 = .ok (.iadd, 1) := by decide +kernel
theorem dX0_nextChance_57 : decode cX0_nextChance 57 = .ok (.invokestatic 116, 3) := by decide +kernel
theorem dX0_nextChance_60 : decode cX0_nextChance 60 = .ok (.ireturn, 1) := by decide +kernel
theorem dX1_init_0 : decode cX1_init 0 = .ok (.aload_n 0, 1) := by decide +kernel
theorem dX1_init_1 : decode cX1_init 1 = .ok (.invokespecial 3, 3) := by decide +kernel
theorem dX1_init_4 : decode cX1_init 4 = .ok (.aload_n 0, 1) := by decide +kernel
theorem dX1_init_5 : decode cX1_init 5 = .ok (.iconst 5, 1) := by decide +kernel
theorem dX1_init_6 : decode cX1_init 6 = .ok (.newarray .int, 2) := by decide +kernel
theorem dX1_init_8 : decode cX1_init 8 = .ok (.putfield 9, 3) := by decide +kernel
theorem dX1_init_11 : decode cX1_init 11 = .ok (.aload_n 0, 1) := by decide +kernel
theorem dX1_init_12 : decode cX1_init 12 = .ok (.iconst 5, 1) := by decide +kernel
theorem dX1_init_13 : decode cX1_init 13 = .ok (.newarray .int, 2) := by decide +kernel
theorem dX1_init_15 : decode cX1_init 15 = .ok (.putfield 15, 3) := by decide +kernel
theorem dX1_init_18 : decode cX1_init 18 = .ok (.aload_n 0, 1) := by decide +kernel
theorem dX1_init_19 : decode cX1_init 19 = .ok (.bipush 8, 2) := by decide +kernel
theorem dX1_init_21 : decode cX1_init 21 = .ok (.newarray .int, 2) := by decide +kernel
theorem dX1_init_23 : decode cX1_init 23 = .ok (.putfield 18, 3) := by decide +kernel
theorem dX1_init_26 : decode cX1_init 26 = .ok (.aload_n 0, 1) := by decide +kernel
theorem dX1_init_27 : decode cX1_init 27 = .ok (.bipush 8, 2) := by decide +kernel
theorem dX1_init_29 : decode cX1_init 29 = .ok (.newarray .int, 2) := by decide +kernel
theorem dX1_init_31 : decode cX1_init 31 = .ok (.putfield 21, 3) := by decide +kernel
theorem dX1_init_34 : decode cX1_init 34 = .ok (.aload_n 0, 1) := by decide +kernel
theorem dX1_init_35 : decode cX1_init 35 = .ok (.bipush 9, 2) := by decide +kernel
theorem dX1_init_37 : decode cX1_init 37 = .ok (.newarray .int, 2) := by decide +kernel
theorem dX1_init_39 : decode cX1_init 39 = .ok (.dup, 1) := by decide +kernel
theorem dX1_init_40 : decode cX1_init 40 = .ok (.iconst 0, 1) := by decide +kernel
theorem dX1_init_41 : decode cX1_init 41 = .ok (.sipush 300, 3) := by decide +kernel
theorem dX1_init_44 : decode cX1_init 44 = .ok (.iastore, 1) := by decide +kernel
theorem dX1_init_45 : decode cX1_init 45 = .ok (.dup, 1) := by decide +kernel
theorem dX1_init_46 : decode cX1_init 46 = .ok (.iconst 1, 1) := by decide +kernel
theorem dX1_init_47 : decode cX1_init 47 = .ok (.sipush 600, 3) := by decide +kernel
theorem dX1_init_50 : decode cX1_init 50 = .ok (.iastore, 1) := by decide +kernel
theorem dX1_init_51 : decode cX1_init 51 = .ok (.dup, 1) := by decide +kernel
theorem dX1_init_52 : decode cX1_init 52 = .ok (.iconst 2, 1) := by decide +kernel
theorem dX1_init_53 : decode cX1_init 53 = .ok (.bipush 20, 2) := by decide +kernel
theorem dX1_init_55 : decode cX1_init 55 = .ok (.iastore, 1) := by decide +kernel
theorem dX1_init_56 : decode cX1_init 56 = .ok (.dup, 1) := by decide +kernel
theorem dX1_init_57 : decode cX1_init 57 = .ok (.iconst 3, 1) := by decide +kernel
theorem dX1_init_58 : decode cX1_init 58 = .ok (.iconst 3, 1) := by decide +kernel
theorem dX1_init_59 : decode cX1_init 59 = .ok (.iastore, 1) := by decide +kernel
theorem dX1_init_60 : decode cX1_init 60 = .ok (.dup, 1) := by decide +kernel
theorem dX1_init_61 : decode cX1_init 61 = .ok (.iconst 4, 1) := by decide +kernel
theorem dX1_init_62 : decode cX1_init 62 = .ok (.iconst 2, 1) := by decide +kernel
theorem dX1_init_63 : decode cX1_init 63 = .ok (.iastore, 1) := by decide +kernel
theorem dX1_init_64 : decode cX1_init 64 = .ok (.dup, 1) := by decide +kernel
theorem dX1_init_65 : decode cX1_init 65 = .ok (.iconst 5, 1) := by decide +kernel
theorem dX1_init_66 : decode cX1_init 66 = .ok (.iconst 5, 1) := by decide +kernel
theorem dX1_init_67 : decode cX1_init 67 = .ok (.iastore, 1) := by decide +kernel
theorem dX1_init_68 : decode cX1_init 68 = .ok (.dup, 1) := by decide +kernel
theorem dX1_init_69 : decode cX1_init 69 = .ok (.bipush 6, 2) := by decide +kernel
theorem dX1_init_71 : decode cX1_init 71 = .ok (.iconst 0, 1) := by decide +kernel
theorem dX1_init_72 : decode cX1_init 72 = .ok (.iastore, 1) := by decide +kernel
theorem dX1_init_73 : decode cX1_init 73 = .ok (.dup, 1) := by decide +kernel
theorem dX1_init_74 : decode cX1_init 74 = .ok (.bipush 7, 2) := by decide +kernel
theorem dX1_init_76 : decode cX1_init 76 = .ok (.iconst 0, 1) := by decide +kernel
theorem dX1_init_77 : decode cX1_init 77 = .ok (.iastore, 1) := by decide +kernel
theorem dX1_init_78 : decode cX1_init 78 = .ok (.dup, 1) := by decide +kernel
theorem dX1_init_79 : decode cX1_init 79 = .ok (.bipush 8, 2) := by decide +kernel
theorem dX1_init_81 : decode cX1_init 81 = .ok (.iconst 0, 1) := by decide +kernel
theorem dX1_init_82 : decode cX1_init 82 = .ok (.iastore, 1) := by decide +kernel
theorem dX1_init_83 : decode cX1_init 83 = .ok (.putfield 24, 3) := by decide +kernel
theorem dX1_init_86 : decode cX1_init 86 = .ok (.aload_n 0, 1) := by decide +kernel
theorem dX1_init_87 : decode cX1_init 87 = .ok (.bipush 8, 2) := by decide +kernel
theorem dX1_init_89 : decode cX1_init 89 = .ok (.newarray .int, 2) := by decide +kernel
theorem dX1_init_91 : decode cX1_init 91 = .ok (.putfield 27, 3) := by decide +kernel
theorem dX1_init_94 : decode cX1_init 94 = .ok (.return_, 1) := by decide +kernel
theorem dX1_copyFrom_0 : decode cX1_copyFrom 0 = .ok (.aload_n 0, 1) := by decide +kernel
theorem dX1_copyFrom_1 : decode cX1_copyFrom 1 = .ok (.aload_n 1, 1) := by decide +kernel
theorem dX1_copyFrom_2 : decode cX1_copyFrom 2 = .ok (.getfield 30, 3) := by decide +kernel
theorem dX1_copyFrom_5 : decode cX1_copyFrom 5 = .ok (.putfield 30, 3) := by decide +kernel
theorem dX1_copyFrom_8 : decode cX1_copyFrom 8 = .ok (.aload_n 1, 1) := by decide +kernel
theorem dX1_copyFrom_9 : decode cX1_copyFrom 9 = .ok (.getfield 9, 3) := by decide +kernel
theorem dX1_copyFrom_12 : decode cX1_copyFrom 12 = .ok (.iconst 0, 1) := by decide +kernel
theorem dX1_copyFrom_13 : decode cX1_copyFrom 13 = .ok (.aload_n 0, 1) := by decide +kernel
theorem dX1_copyFrom_14 : decode cX1_copyFrom 14 = .ok (.getfield 9, 3) := by decide +kernel
theorem dX1_copyFrom_17 : decode cX1_copyFrom 17 = .ok (.iconst 0, 1) := by decide +kernel
theorem dX1_copyFrom_18 : decode cX1_copyFrom 18 = .ok (.iconst 5, 1) := by decide +kernel
theorem dX1_copyFrom_19 : decode cX1_copyFrom 19 = .ok (.invokestatic 34, 3) := by decide +kernel
theorem dX1_copyFrom_22 : decode cX1_copyFrom 22 = .ok (.aload_n 1, 1) := by decide +kernel
theorem dX1_copyFrom_23 : decode cX1_copyFrom 23 = .ok (.getfield 15, 3) := by decide +kernel
theorem dX1_copyFrom_26 : decode cX1_copyFrom 26 = .ok (.iconst 0, 1) := by decide +kernel
theorem dX1_copyFrom_27 : decode cX1_copyFrom 27 = .ok (.aload_n 0, 1) := by decide +kernel
theorem dX1_copyFrom_28 : decode cX1_copyFrom 28 = .ok (.getfield 15, 3) := by decide +kernel
theorem dX1_copyFrom_31 : decode cX1_copyFrom 31 = .ok (.iconst 0, 1) := by decide +kernel
theorem dX1_copyFrom_32 : decode cX1_copyFrom 32 = .ok (.iconst 5, 1) := by decide +kernel
theorem dX1_copyFrom_33 : decode cX1_copyFrom 33 = .ok (.invokestatic 34, 3) := by decide +kernel
theorem dX1_copyFrom_36 : decode cX1_copyFrom 36 = .ok (.aload_n 0, 1) := by decide +kernel
theorem dX1_copyFrom_37 : decode cX1_copyFrom 37 = .ok (.aload_n 1, 1) := by decide +kernel
theorem dX1_copyFrom_38 : decode cX1_copyFrom 38 = .ok (.getfield 40, 3) := by decide +kernel
theorem dX1_copyFrom_41 : decode cX1_copyFrom 41 = .ok (.putfield 40, 3) := by decide +kernel
theorem dX1_copyFrom_44 : decode cX1_copyFrom 44 = .ok (.aload_n 1, 1) := by decide +kernel
theorem dX1_copyFrom_45 : decode cX1_copyFrom 45 = .ok (.getfield 18, 3) := by decide +kernel
theorem dX1_copyFrom_48 : decode cX1_copyFrom 48 = .ok (.iconst 0, 1) := by decide +kernel
theorem dX1_copyFrom_49 : decode cX1_copyFrom 49 = .ok (.aload_n 0, 1) := by decide +kernel
theorem dX1_copyFrom_50 : decode cX1_copyFrom 50 = .ok (.getfield 18, 3) := by decide +kernel
theorem dX1_copyFrom_53 : decode cX1_copyFrom 53 = .ok (.iconst 0, 1) := by decide +kernel
theorem dX1_copyFrom_54 : decode cX1_copyFrom 54 = .ok (.bipush 8, 2) := by decide +kernel
theorem dX1_copyFrom_56 : decode cX1_copyFrom 56 = .ok (.invokestatic 34, 3) := by decide +kernel
theorem dX1_copyFrom_59 : decode cX1_copyFrom 59 = .ok (.aload_n 1, 1) := by decide +kernel
theorem dX1_copyFrom_60 : decode cX1_copyFrom 60 = .ok (.getfield 21, 3) := by decide +kernel
theorem dX1_copyFrom_63 : decode cX1_copyFrom 63 = .ok (.iconst 0, 1) := by decide +kernel
theorem dX1_copyFrom_64 : decode cX1_copyFrom 64 = .ok (.aload_n 0, 1) := by decide +kernel
theorem dX1_copyFrom_65 : decode cX1_copyFrom 65 = .ok (.getfield 21, 3) := by decide +kernel
theorem dX1_copyFrom_68 : decode cX1_copyFrom 68 = .ok (.iconst 0, 1) := by decide +kernel
theorem dX1_copyFrom_69 : decode cX1_copyFrom 69 = .ok (.bipush 8, 2) := by decide +kernel
theorem dX1_copyFrom_71 : decode cX1_copyFrom 71 = .ok (.invokestatic 34, 3) := by decide +kernel
theorem dX1_copyFrom_74 : decode cX1_copyFrom 74 = .ok (.aload_n 0, 1) := by decide +kernel
theorem dX1_copyFrom_75 : decode cX1_copyFrom 75 = .ok (.aload_n 1, 1) := by decide +kernel
theorem dX1_copyFrom_76 : decode cX1_copyFrom 76 = .ok (.getfield 43, 3) := by decide +kernel
theorem dX1_copyFrom_79 : decode cX1_copyFrom 79 = .ok (.putfield 43, 3) := by decide +kernel
theorem dX1_copyFrom_82 : decode cX1_copyFrom 82 = .ok (.aload_n 1, 1) := by decide +kernel
theorem dX1_copyFrom_83 : decode cX1_copyFrom 83 = .ok (.getfield 24, 3) := by decide +kernel
theorem dX1_copyFrom_86 : decode cX1_copyFrom 86 = .ok (.iconst 0, 1) := by decide +kernel
theorem dX1_copyFrom_87 : decode cX1_copyFrom 87 = .ok (.aload_n 0, 1) := by decide +kernel
theorem dX1_copyFrom_88 : decode cX1_copyFrom 88 = .ok (.getfield 24, 3) := by decide +kernel
theorem dX1_copyFrom_91 : decode cX1_copyFrom 91 = .ok (.iconst 0, 1) := by decide +kernel
theorem dX1_copyFrom_92 : decode cX1_copyFrom 92 = .ok (.bipush 9, 2) := by decide +kernel
theorem dX1_copyFrom_94 : decode cX1_copyFrom 94 = .ok (.invokestatic 34, 3) := by decide +kernel
theorem dX1_copyFrom_97 : decode cX1_copyFrom 97 = .ok (.aload_n 0, 1) := by decide +kernel
theorem dX1_copyFrom_98 : decode cX1_copyFrom 98 = .ok (.aload_n 1, 1) := by decide +kernel
theorem dX1_copyFrom_99 : decode cX1_copyFrom 99 = .ok (.getfield 46, 3) := by decide +kernel
theorem dX1_copyFrom_102 : decode cX1_copyFrom 102 = .ok (.putfield 46, 3) := by decide +kernel
theorem dX1_copyFrom_105 : decode cX1_copyFrom 105 = .ok (.aload_n 1, 1) := by decide +kernel
theorem dX1_copyFrom_106 : decode cX1_copyFrom 106 = .ok (.getfield 27, 3) := by decide +kernel
theorem dX1_copyFrom_109 : decode cX1_copyFrom 109 = .ok (.iconst 0, 1) := by decide +kernel
theorem dX1_copyFrom_110 : decode cX1_copyFrom 110 = .ok (.aload_n 0, 1) := by decide +kernel
theorem dX1_copyFrom_111 : decode cX1_copyFrom 111 = .ok (.getfield 27, 3) := by decide +kernel
theorem dX1_copyFrom_114 : decode cX1_copyFrom 114 = .ok (.iconst 0, 1) := by decide +kernel
theorem dX1_copyFrom_115 : decode cX1_copyFrom 115 = .ok (.bipush 8, 2) := by decide +kernel
theorem dX1_copyFrom_117 : decode cX1_copyFrom 117 = .ok (.invokestatic 34, 3) := by decide +kernel
theorem dX1_copyFrom_120 : decode cX1_copyFrom 120 = .ok (.return_, 1) := by decide +kernel
theorem dX1_hasPiece_0 : decode cX1_hasPiece 0 = .ok (.iload_n 1, 1) := by decide +kernel
theorem dX1_hasPiece_1 : decode cX1_hasPiece 1 = .ok (.ifCond .lt 15, 3) := by decide +kernel
theorem dX1_hasPiece_4 : decode cX1_hasPiece 4 = .ok (.iload_n 1, 1) := by decide +kernel
theorem dX1_hasPiece_5 : decode cX1_hasPiece 5 = .ok (.aload_n 0, 1) := by decide +kernel
theorem dX1_hasPiece_6 : decode cX1_hasPiece 6 = .ok (.getfield 30, 3) := by decide +kernel
theorem dX1_hasPiece_9 : decode cX1_hasPiece 9 = .ok (.if_icmp .ge 7, 3) := by decide +kernel
theorem dX1_hasPiece_12 : decode cX1_hasPiece 12 = .ok (.iconst 1, 1) := by decide +kernel
theorem dX1_hasPiece_13 : decode cX1_hasPiece 13 = .ok (.goto 4, 3) := by decide +kernel
theorem dX1_hasPiece_16 : decode cX1_hasPiece 16 = .ok (.iconst 0, 1) := by decide +kernel
theorem dX1_hasPiece_17 : decode cX1_hasPiece 17 = .ok (.ireturn, 1) := by decide +kernel
theorem dX1_hasTrain_0 : decode cX1_hasTrain 0 = .ok (.iload_n 1, 1) := by decide +kernel
theorem dX1_hasTrain_1 : decode cX1_hasTrain 1 = .ok (.ifCond .lt 15, 3) := by decide +kernel
theorem dX1_hasTrain_4 : decode cX1_hasTrain 4 = .ok (.iload_n 1, 1) := by decide +kernel
theorem dX1_hasTrain_5 : decode cX1_hasTrain 5 = .ok (.aload_n 0, 1) := by decide +kernel
theorem dX1_hasTrain_6 : decode cX1_hasTrain 6 = .ok (.getfield 40, 3) := by decide +kernel
theorem dX1_hasTrain_9 : decode cX1_hasTrain 9 = .ok (.if_icmp .ge 7, 3) := by decide +kernel
theorem dX1_hasTrain_12 : decode cX1_hasTrain 12 = .ok (.iconst 1, 1) := by decide +kernel
theorem dX1_hasTrain_13 : decode cX1_hasTrain 13 = .ok (.goto 4, 3) := by decide +kernel
theorem dX1_hasTrain_16 : decode cX1_hasTrain 16 = .ok (.iconst 0, 1) := by decide +kernel
theorem dX1_hasTrain_17 : decode cX1_hasTrain 17 = .ok (.ireturn, 1) := by decide +kernel
theorem dX1_addPiece_0 : decode cX1_addPiece 0 = .ok (.iload_n 1, 1) := by decide +kernel
theorem dX1_addPiece_1 : decode cX1_addPiece 1 = .ok (.iconst 1, 1) := by decide +kernel
theorem dX1_addPiece_2 : decode cX1_addPiece 2 = .ok (.if_icmp .lt 17, 3) := by decide +kernel
theorem dX1_addPiece_5 : decode cX1_addPiece 5 = .ok (.iload_n 1, 1) := by decide +kernel
theorem dX1_addPiece_6 : decode cX1_addPiece 6 = .ok (.bipush 9, 2) := by decide +kernel
theorem dX1_addPiece_8 : decode cX1_addPiece 8 = .ok (.if_icmp .gt 11, 3) := by decide +kernel
theorem dX1_addPiece_11 : decode cX1_addPiece 11 = .ok (.aload_n 0, 1) := by decide +kernel
theorem dX1_addPiece_12 : decode cX1_addPiece 12 = .ok (.getfield 30, 3) := by decide +kernel
theorem dX1_addPiece_15 : decode cX1_addPiece 15 = .ok (.iconst 5, 1) := by decide +kernel
theorem dX1_addPiece_16 : decode cX1_addPiece 16 = .ok (.if_icmp .lt 5, 3) := by decide +kernel
theorem dX1_addPiece_19 : decode cX1_addPiece 19 = .ok (.iconst 0, 1) := by decide +kernel
theorem dX1_addPiece_20 : decode cX1_addPiece 20 = .ok (.ireturn, 1) := by decide +kernel
theorem dX1_addPiece_21 : decode cX1_addPiece 21 = .ok (.aload_n 0, 1) := by decide +kernel
theorem dX1_addPiece_22 : decode cX1_addPiece 22 = .ok (.getfield 9, 3) := by decide +kernel
theorem dX1_addPiece_25 : decode cX1_addPiece 25 = .ok (.aload_n 0, 1) := by decide +kernel
theorem dX1_addPiece_26 : decode cX1_addPiece 26 = .ok (.getfield 30, 3) := by decide +kernel
theorem dX1_addPiece_29 : decode cX1_addPiece 29 = .ok (.iload_n 1, 1) := by decide +kernel
theorem dX1_addPiece_30 : decode cX1_addPiece 30 = .ok (.iastore, 1) := by decide +kernel
theorem dX1_addPiece_31 : decode cX1_addPiece 31 = .ok (.aload_n 0, 1) := by decide +kernel
theorem dX1_addPiece_32 : decode cX1_addPiece 32 = .ok (.getfield 15, 3) := by decide +kernel
theorem dX1_addPiece_35 : decode cX1_addPiece 35 = .ok (.aload_n 0, 1) := by decide +kernel
theorem dX1_addPiece_36 : decode cX1_addPiece 36 = .ok (.getfield 30, 3) := by decide +kernel
theorem dX1_addPiece_39 : decode cX1_addPiece 39 = .ok (.iload_n 2, 1) := by decide +kernel
theorem dX1_addPiece_40 : decode cX1_addPiece 40 = .ok (.iastore, 1) := by decide +kernel
theorem dX1_addPiece_41 : decode cX1_addPiece 41 = .ok (.aload_n 0, 1) := by decide +kernel
theorem dX1_addPiece_42 : decode cX1_addPiece 42 = .ok (.dup, 1) := by decide +kernel
theorem dX1_addPiece_43 : decode cX1_addPiece 43 = .ok (.getfield 30, 3) := by decide +kernel
theorem dX1_addPiece_46 : decode cX1_addPiece 46 = .ok (.iconst 1, 1) := by decide +kernel
theorem dX1_addPiece_47 : decode cX1_addPiece 47 = .ok (.iadd, 1) := by decide +kernel
theorem dX1_addPiece_48 : decode cX1_addPiece 48 = .ok (.putfield 30, 3) := by decide +kernel
theorem dX1_addPiece_51 : decode cX1_addPiece 51 = .ok (.iconst 1, 1) := by decide +kernel
theorem dX1_addPiece_52 : decode cX1_addPiece 52 = .ok (.ireturn, 1) := by decide +kernel
theorem dX1_addTrain_0 : decode cX1_addTrain 0 = .ok (.iload_n 1, 1) := by decide +kernel
theorem dX1_addTrain_1 : decode cX1_addTrain 1 = .ok (.ifCond .lt 31, 3) := by decide +kernel
theorem dX1_addTrain_4 : decode cX1_addTrain 4 = .ok (.iload_n 1, 1) := by decide +kernel
theorem dX1_addTrain_5 : decode cX1_addTrain 5 = .ok (.sipush 600, 3) := by decide +kernel
theorem dX1_addTrain_8 : decode cX1_addTrain 8 = .ok (.if_icmp .gt 24, 3) := by decide +kernel
theorem dX1_addTrain_11 : decode cX1_addTrain 11 = .ok (.iload_n 2, 1) := by decide +kernel
theorem dX1_addTrain_12 : decode cX1_addTrain 12 = .ok (.iconst 1, 1) := by decide +kernel
theorem dX1_addTrain_13 : decode cX1_addTrain 13 = .ok (.if_icmp .lt 19, 3) := by decide +kernel
theorem dX1_addTrain_16 : decode cX1_addTrain 16 = .ok (.iload_n 2, 1) := by decide +kernel
theorem dX1_addTrain_17 : decode cX1_addTrain 17 = .ok (.sipush 999, 3) := by decide +kernel
theorem dX1_addTrain_20 : decode cX1_addTrain 20 = .ok (.if_icmp .gt 12, 3) := by decide +kernel
theorem dX1_addTrain_23 : decode cX1_addTrain 23 = .ok (.aload_n 0, 1) := by decide +kernel
theorem dX1_addTrain_24 : decode cX1_addTrain 24 = .ok (.getfield 40, 3) := by decide +kernel
theorem dX1_addTrain_27 : decode cX1_addTrain 27 = .ok (.bipush 8, 2) := by decide +kernel
theorem dX1_addTrain_29 : decode cX1_addTrain 29 = .ok (.if_icmp .lt 5, 3) := by decide +kernel
theorem dX1_addTrain_32 : decode cX1_addTrain 32 = .ok (.iconst 0, 1) := by decide +kernel
theorem dX1_addTrain_33 : decode cX1_addTrain 33 = .ok (.ireturn, 1) := by decide +kernel
theorem dX1_addTrain_34 : decode cX1_addTrain 34 = .ok (.aload_n 0, 1) := by decide +kernel
theorem dX1_addTrain_35 : decode cX1_addTrain 35 = .ok (.getfield 18, 3) := by decide +kernel
theorem dX1_addTrain_38 : decode cX1_addTrain 38 = .ok (.aload_n 0, 1) := by decide +kernel
theorem dX1_addTrain_39 : decode cX1_addTrain 39 = .ok (.getfield 40, 3) := by decide +kernel
theorem dX1_addTrain_42 : decode cX1_addTrain 42 = .ok (.iload_n 1, 1) := by decide +kernel
theorem dX1_addTrain_43 : decode cX1_addTrain 43 = .ok (.iastore, 1) := by decide +kernel
theorem dX1_addTrain_44 : decode cX1_addTrain 44 = .ok (.aload_n 0, 1) := by decide +kernel
theorem dX1_addTrain_45 : decode cX1_addTrain 45 = .ok (.getfield 21, 3) := by decide +kernel
theorem dX1_addTrain_48 : decode cX1_addTrain 48 = .ok (.aload_n 0, 1) := by decide +kernel
theorem dX1_addTrain_49 : decode cX1_addTrain 49 = .ok (.getfield 40, 3) := by decide +kernel
theorem dX1_addTrain_52 : decode cX1_addTrain 52 = .ok (.iload_n 2, 1) := by decide +kernel
theorem dX1_addTrain_53 : decode cX1_addTrain 53 = .ok (.iastore, 1) := by decide +kernel
theorem dX1_addTrain_54 : decode cX1_addTrain 54 = .ok (.aload_n 0, 1) := by decide +kernel
theorem dX1_addTrain_55 : decode cX1_addTrain 55 = .ok (.dup, 1) := by decide +kernel
theorem dX1_addTrain_56 : decode cX1_addTrain 56 = .ok (.getfield 40, 3) := by decide +kernel
theorem dX1_addTrain_59 : decode cX1_addTrain 59 = .ok (.iconst 1, 1) := by decide +kernel
theorem dX1_addTrain_60 : decode cX1_addTrain 60 = .ok (.iadd, 1) := by decide +kernel
theorem dX1_addTrain_61 : decode cX1_addTrain 61 = .ok (.putfield 40, 3) := by decide +kernel
theorem dX1_addTrain_64 : decode cX1_addTrain 64 = .ok (.iconst 1, 1) := by decide +kernel
theorem dX1_addTrain_65 : decode cX1_addTrain 65 = .ok (.ireturn, 1) := by decide +kernel
theorem dX1_putEngines_0 : decode cX1_putEngines 0 = .ok (.iload_n 1, 1) := by decide +kernel
theorem dX1_putEngines_1 : decode cX1_putEngines 1 = .ok (.ifCond .lt 8, 3) := by decide +kernel
theorem dX1_putEngines_4 : decode cX1_putEngines 4 = .ok (.iload_n 1, 1) := by decide +kernel
theorem dX1_putEngines_5 : decode cX1_putEngines 5 = .ok (.iconst 4, 1) := by decide +kernel
theorem dX1_putEngines_6 : decode cX1_putEngines 6 = .ok (.if_icmp .le 5, 3) := by decide +kernel
theorem dX1_putEngines_9 : decode cX1_putEngines 9 = .ok (.iconst 0, 1) := by decide +kernel
theorem dX1_putEngines_10 : decode cX1_putEngines 10 = .ok (.ireturn, 1) := by decide +kernel
theorem dX1_putEngines_11 : decode cX1_putEngines 11 = .ok (.aload_n 0, 1) := by decide +kernel
theorem dX1_putEngines_12 : decode cX1_putEngines 12 = .ok (.iload_n 1, 1) := by decide +kernel
theorem dX1_putEngines_13 : decode cX1_putEngines 13 = .ok (.putfield 43, 3) := by decide +kernel
theorem dX1_putEngines_16 : decode cX1_putEngines 16 = .ok (.iconst 1, 1) := by decide +kernel
theorem dX1_putEngines_17 : decode cX1_putEngines 17 = .ok (.ireturn, 1) := by decide +kernel
theorem dX1_makeAllWeigh_0 : decode cX1_makeAllWeigh 0 = .ok (.iconst 0, 1) := by decide +kernel
theorem dX1_makeAllWeigh_1 : decode cX1_makeAllWeigh 1 = .ok (.istore_n 2, 1) := by decide +kernel
theorem dX1_makeAllWeigh_2 : decode cX1_makeAllWeigh 2 = .ok (.iload_n 2, 1) := by decide +kernel
theorem dX1_makeAllWeigh_3 : decode cX1_makeAllWeigh 3 = .ok (.aload_n 0, 1) := by decide +kernel
theorem dX1_makeAllWeigh_4 : decode cX1_makeAllWeigh 4 = .ok (.getfield 40, 3) := by decide +kernel
theorem dX1_makeAllWeigh_7 : decode cX1_makeAllWeigh 7 = .ok (.if_icmp .ge 16, 3) := by decide +kernel
theorem dX1_makeAllWeigh_10 : decode cX1_makeAllWeigh 10 = .ok (.aload_n 0, 1) := by decide +kernel
theorem dX1_makeAllWeigh_11 : decode cX1_makeAllWeigh 11 = .ok (.getfield 21, 3) := by decide +kernel
theorem dX1_makeAllWeigh_14 : decode cX1_makeAllWeigh 14 = .ok (.iload_n 2, 1) := by decide +kernel
theorem dX1_makeAllWeigh_15 : decode cX1_makeAllWeigh 15 = .ok (.iload_n 1, 1) := by decide +kernel
theorem dX1_makeAllWeigh_16 : decode cX1_makeAllWeigh 16 = .ok (.iastore, 1) := by decide +kernel
theorem dX1_makeAllWeigh_17 : decode cX1_makeAllWeigh 17 = .ok (.iinc 2 1, 3) := by decide +kernel
theorem dX1_makeAllWeigh_20 : decode cX1_makeAllWeigh 20 = .ok (.goto (-18), 3) := by decide +kernel
theorem dX1_makeAllWeigh_23 : decode cX1_makeAllWeigh 23 = .ok (.return_, 1) := by decide +kernel
theorem dX1_baseMinutes_0 : decode cX1_baseMinutes 0 = .ok (.iconst 0, 1) := by decide +kernel
theorem dX1_baseMinutes_1 : decode cX1_baseMinutes 1 = .ok (.istore_n 1, 1) := by decide +kernel
theorem dX1_baseMinutes_2 : decode cX1_baseMinutes 2 = .ok (.iconst 0, 1) := by decide +kernel
theorem dX1_baseMinutes_3 : decode cX1_baseMinutes 3 = .ok (.istore_n 2, 1) := by decide +kernel
theorem dX1_baseMinutes_4 : decode cX1_baseMinutes 4 = .ok (.iload_n 2, 1) := by decide +kernel
theorem dX1_baseMinutes_5 : decode cX1_baseMinutes 5 = .ok (.aload_n 0, 1) := by decide +kernel
theorem dX1_baseMinutes_6 : decode cX1_baseMinutes 6 = .ok (.getfield 30, 3) := by decide +kernel
theorem dX1_baseMinutes_9 : decode cX1_baseMinutes 9 = .ok (.if_icmp .ge 18, 3) := by decide +kernel
theorem dX1_baseMinutes_12 : decode cX1_baseMinutes 12 = .ok (.iload_n 1, 1) := by decide +kernel
theorem dX1_baseMinutes_13 : decode cX1_baseMinutes 13 = .ok (.aload_n 0, 1) := by decide +kernel
theorem dX1_baseMinutes_14 : decode cX1_baseMinutes 14 = .ok (.getfield 9, 3) := by decide +kernel
theorem dX1_baseMinutes_17 : decode cX1_baseMinutes 17 = .ok (.iload_n 2, 1) := by decide +kernel
theorem dX1_baseMinutes_18 : decode cX1_baseMinutes 18 = .ok (.iaload, 1) := by decide +kernel
theorem dX1_baseMinutes_19 : decode cX1_baseMinutes 19 = .ok (.iadd, 1) := by decide +kernel
theorem dX1_baseMinutes_20 : decode cX1_baseMinutes 20 = .ok (.istore_n 1, 1) := by decide +kernel
theorem dX1_baseMinutes_21 : decode cX1_baseMinutes 21 = .ok (.iinc 2 1, 3) := by decide +kernel
theorem dX1_baseMinutes_24 : decode cX1_baseMinutes 24 = .ok (.goto (-20), 3) := by decide +kernel
theorem dX1_baseMinutes_27 : decode cX1_baseMinutes 27 = .ok (.iload_n 1, 1) := by decide +kernel
theorem dX1_baseMinutes_28 : decode cX1_baseMinutes 28 = .ok (.ireturn, 1) := by decide +kernel
theorem dX1_singles_0 : decode cX1_singles 0 = .ok (.iconst 0, 1) := by decide +kernel
theorem dX1_singles_1 : decode cX1_singles 1 = .ok (.istore_n 1, 1) := by decide +kernel
theorem dX1_singles_2 : decode cX1_singles 2 = .ok (.iconst 0, 1) := by decide +kernel
theorem dX1_singles_3 : decode cX1_singles 3 = .ok (.istore_n 2, 1) := by decide +kernel
theorem dX1_singles_4 : decode cX1_singles 4 = .ok (.iload_n 2, 1) := by decide +kernel
theorem dX1_singles_5 : decode cX1_singles 5 = .ok (.aload_n 0, 1) := by decide +kernel
theorem dX1_singles_6 : decode cX1_singles 6 = .ok (.getfield 30, 3) := by decide +kernel
theorem dX1_singles_9 : decode cX1_singles 9 = .ok (.if_icmp .ge 21, 3) := by decide +kernel
theorem dX1_singles_12 : decode cX1_singles 12 = .ok (.aload_n 0, 1) := by decide +kernel
theorem dX1_singles_13 : decode cX1_singles 13 = .ok (.getfield 15, 3) := by decide +kernel
theorem dX1_singles_16 : decode cX1_singles 16 = .ok (.iload_n 2, 1) := by decide +kernel
theorem dX1_singles_17 : decode cX1_singles 17 = .ok (.iaload, 1) := by decide +kernel
theorem dX1_singles_18 : decode cX1_singles 18 = .ok (.ifCond .ne 6, 3) := by decide +kernel
theorem dX1_singles_21 : decode cX1_singles 21 = .ok (.iinc 1 1, 3) := by decide +kernel
theorem dX1_singles_24 : decode cX1_singles 24 = .ok (.iinc 2 1, 3) := by decide +kernel
theorem dX1_singles_27 : decode cX1_singles 27 = .ok (.goto (-23), 3) := by decide +kernel
theorem dX1_singles_30 : decode cX1_singles 30 = .ok (.iload_n 1, 1) := by decide +kernel
theorem dX1_singles_31 : decode cX1_singles 31 = .ok (.ireturn, 1) := by decide +kernel
theorem dX1_onThisRail_0 : decode cX1_onThisRail 0 = .ok (.aload_n 0, 1) := by decide +kernel
theorem dX1_onThisRail_1 : decode cX1_onThisRail 1 = .ok (.getfield 24, 3) := by decide +kernel
theorem dX1_onThisRail_4 : decode cX1_onThisRail 4 = .ok (.bipush 6, 2) := by decide +kernel
theorem dX1_onThisRail_6 : decode cX1_onThisRail 6 = .ok (.iaload, 1) := by decide +kernel
theorem dX1_onThisRail_7 : decode cX1_onThisRail 7 = .ok (.iconst 1, 1) := by decide +kernel
theorem dX1_onThisRail_8 : decode cX1_onThisRail 8 = .ok (.if_icmp .ne 19, 3) := by decide +kernel
theorem dX1_onThisRail_11 : decode cX1_onThisRail 11 = .ok (.iload_n 1, 1) := by decide +kernel
theorem dX1_onThisRail_12 : decode cX1_onThisRail 12 = .ok (.iload_n 1, 1) := by decide +kernel
theorem dX1_onThisRail_13 : decode cX1_onThisRail 13 = .ok (.aload_n 0, 1) := by decide +kernel
theorem dX1_onThisRail_14 : decode cX1_onThisRail 14 = .ok (.getfield 24, 3) := by decide +kernel
theorem dX1_onThisRail_17 : decode cX1_onThisRail 17 = .ok (.iconst 2, 1) := by decide +kernel
theorem dX1_onThisRail_18 : decode cX1_onThisRail 18 = .ok (.iaload, 1) := by decide +kernel
theorem dX1_onThisRail_19 : decode cX1_onThisRail 19 = .ok (.imul, 1) := by decide +kernel
theorem dX1_onThisRail_20 : decode cX1_onThisRail 20 = .ok (.bipush 100, 2) := by decide +kernel
theorem dX1_onThisRail_22 : decode cX1_onThisRail 22 = .ok (.idiv, 1) := by decide +kernel
theorem dX1_onThisRail_23 : decode cX1_onThisRail 23 = .ok (.isub, 1) := by decide +kernel
theorem dX1_onThisRail_24 : decode cX1_onThisRail 24 = .ok (.goto 4, 3) := by decide +kernel
theorem dX1_onThisRail_27 : decode cX1_onThisRail 27 = .ok (.iload_n 1, 1) := by decide +kernel
theorem dX1_onThisRail_28 : decode cX1_onThisRail 28 = .ok (.ireturn, 1) := by decide +kernel
theorem dX1_kindOf_0 : decode cX1_kindOf 0 = .ok (.iload_n 1, 1) := by decide +kernel
theorem dX1_kindOf_1 : decode cX1_kindOf 1 = .ok (.aload_n 0, 1) := by decide +kernel
theorem dX1_kindOf_2 : decode cX1_kindOf 2 = .ok (.aload_n 0, 1) := by decide +kernel
theorem dX1_kindOf_3 : decode cX1_kindOf 3 = .ok (.getfield 24, 3) := by decide +kernel
theorem dX1_kindOf_6 : decode cX1_kindOf 6 = .ok (.iconst 0, 1) := by decide +kernel
theorem dX1_kindOf_7 : decode cX1_kindOf 7 = .ok (.iaload, 1) := by decide +kernel
theorem dX1_kindOf_8 : decode cX1_kindOf 8 = .ok (.invokevirtual 49, 3) := by decide +kernel
theorem dX1_kindOf_11 : decode cX1_kindOf 11 = .ok (.if_icmp .gt 5, 3) := by decide +kernel
theorem dX1_kindOf_14 : decode cX1_kindOf 14 = .ok (.iconst 0, 1) := by decide +kernel
theorem dX1_kindOf_15 : decode cX1_kindOf 15 = .ok (.ireturn, 1) := by decide +kernel
theorem dX1_kindOf_16 : decode cX1_kindOf 16 = .ok (.aload_n 0, 1) := by decide +kernel
theorem dX1_kindOf_17 : decode cX1_kindOf 17 = .ok (.aload_n 0, 1) := by decide +kernel
theorem dX1_kindOf_18 : decode cX1_kindOf 18 = .ok (.getfield 24, 3) := by decide +kernel
theorem dX1_kindOf_21 : decode cX1_kindOf 21 = .ok (.iconst 1, 1) := by decide +kernel
theorem dX1_kindOf_22 : decode cX1_kindOf 22 = .ok (.iaload, 1) := by decide +kernel
theorem dX1_kindOf_23 : decode cX1_kindOf 23 = .ok (.invokevirtual 49, 3) := by decide +kernel
theorem dX1_kindOf_26 : decode cX1_kindOf 26 = .ok (.istore_n 2, 1) := by decide +kernel
theorem dX1_kindOf_27 : decode cX1_kindOf 27 = .ok (.iload_n 1, 1) := by decide +kernel
theorem dX1_kindOf_28 : decode cX1_kindOf 28 = .ok (.iload_n 2, 1) := by decide +kernel
theorem dX1_kindOf_29 : decode cX1_kindOf 29 = .ok (.if_icmp .gt 5, 3) := by decide +kernel
theorem dX1_kindOf_32 : decode cX1_kindOf 32 = .ok (.iconst 1, 1) := by decide +kernel
theorem dX1_kindOf_33 : decode cX1_kindOf 33 = .ok (.ireturn, 1) := by decide +kernel
theorem dX1_kindOf_34 : decode cX1_kindOf 34 = .ok (.iload_n 1, 1) := by decide +kernel
theorem dX1_kindOf_35 : decode cX1_kindOf 35 = .ok (.iconst 1, 1) := by decide +kernel
theorem dX1_kindOf_36 : decode cX1_kindOf 36 = .ok (.iadd, 1) := by decide +kernel
theorem dX1_kindOf_37 : decode cX1_kindOf 37 = .ok (.iconst 2, 1) := by decide +kernel
theorem dX1_kindOf_38 : decode cX1_kindOf 38 = .ok (.idiv, 1) := by decide +kernel
theorem dX1_kindOf_39 : decode cX1_kindOf 39 = .ok (.iload_n 2, 1) := by decide +kernel
theorem dX1_kindOf_40 : decode cX1_kindOf 40 = .ok (.if_icmp .gt 7, 3) := by decide +kernel
theorem dX1_kindOf_43 : decode cX1_kindOf 43 = .ok (.iconst 2, 1) := by decide +kernel
theorem dX1_kindOf_44 : decode cX1_kindOf 44 = .ok (.goto 4, 3) := by decide +kernel
theorem dX1_kindOf_47 : decode cX1_kindOf 47 = .ok (.iconst 3, 1) := by decide +kernel
theorem dX1_kindOf_48 : decode cX1_kindOf 48 = .ok (.ireturn, 1) := by decide +kernel
theorem dX1_climbMinutes_0 : decode cX1_climbMinutes 0 = .ok (.aload_n 0, 1) := by decide +kernel
theorem dX1_climbMinutes_1 : decode cX1_climbMinutes 1 = .ok (.invokevirtual 53, 3) := by decide +kernel
theorem dX1_climbMinutes_4 : decode cX1_climbMinutes 4 = .ok (.istore_n 2, 1) := by decide +kernel
theorem dX1_climbMinutes_5 : decode cX1_climbMinutes 5 = .ok (.aload_n 0, 1) := by decide +kernel
theorem dX1_climbMinutes_6 : decode cX1_climbMinutes 6 = .ok (.getfield 24, 3) := by decide +kernel
theorem dX1_climbMinutes_9 : decode cX1_climbMinutes 9 = .ok (.iconst 3, 1) := by decide +kernel
theorem dX1_climbMinutes_10 : decode cX1_climbMinutes 10 = .ok (.iaload, 1) := by decide +kernel
theorem dX1_climbMinutes_11 : decode cX1_climbMinutes 11 = .ok (.iload_n 2, 1) := by decide +kernel
theorem dX1_climbMinutes_12 : decode cX1_climbMinutes 12 = .ok (.iadd, 1) := by decide +kernel
theorem dX1_climbMinutes_13 : decode cX1_climbMinutes 13 = .ok (.aload_n 0, 1) := by decide +kernel
theorem dX1_climbMinutes_14 : decode cX1_climbMinutes 14 = .ok (.getfield 24, 3) := by decide +kernel
theorem dX1_climbMinutes_17 : decode cX1_climbMinutes 17 = .ok (.iconst 4, 1) := by decide +kernel
theorem dX1_climbMinutes_18 : decode cX1_climbMinutes 18 = .ok (.iaload, 1) := by decide +kernel
theorem dX1_climbMinutes_19 : decode cX1_climbMinutes 19 = .ok (.iadd, 1) := by decide +kernel
theorem dX1_climbMinutes_20 : decode cX1_climbMinutes 20 = .ok (.istore_n 3, 1) := by decide +kernel
theorem dX1_climbMinutes_21 : decode cX1_climbMinutes 21 = .ok (.iload_n 1, 1) := by decide +kernel
theorem dX1_climbMinutes_22 : decode cX1_climbMinutes 22 = .ok (.tableswitch 36 0 2 #[26, 28, 30], 26) := by decide +kernel
theorem dX1_climbMinutes_48 : decode cX1_climbMinutes 48 = .ok (.iload_n 2, 1) := by decide +kernel
theorem dX1_climbMinutes_49 : decode cX1_climbMinutes 49 = .ok (.ireturn, 1) := by decide +kernel
theorem dX1_climbMinutes_50 : decode cX1_climbMinutes 50 = .ok (.iload_n 3, 1) := by decide +kernel
theorem dX1_climbMinutes_51 : decode cX1_climbMinutes 51 = .ok (.ireturn, 1) := by decide +kernel
theorem dX1_climbMinutes_52 : decode cX1_climbMinutes 52 = .ok (.iconst 2, 1) := by decide +kernel
theorem dX1_climbMinutes_53 : decode cX1_climbMinutes 53 = .ok (.iload_n 3, 1) := by decide +kernel
theorem dX1_climbMinutes_54 : decode cX1_climbMinutes 54 = .ok (.imul, 1) := by decide +kernel
theorem dX1_climbMinutes_55 : decode cX1_climbMinutes 55 = .ok (.iload_n 2, 1) := by decide +kernel
theorem dX1_climbMinutes_56 : decode cX1_climbMinutes 56 = .ok (.iadd, 1) := by decide +kernel
theorem dX1_climbMinutes_57 : decode cX1_climbMinutes 57 = .ok (.ireturn, 1) := by decide +kernel
theorem dX1_climbMinutes_58 : decode cX1_climbMinutes 58 = .ok (.bipush (-9), 2) := by decide +kernel
theorem dX1_climbMinutes_60 : decode cX1_climbMinutes 60 = .ok (.ireturn, 1) := by decide +kernel
theorem dX1_areDifferentTrains_0 : decode cX1_areDifferentTrains 0 = .ok (.iconst 0, 1) := by decide +kernel
theorem dX1_areDifferentTrains_1 : decode cX1_areDifferentTrains 1 = .ok (.istore_n 3, 1) := by decide +kernel
theorem dX1_areDifferentTrains_2 : decode cX1_areDifferentTrains 2 = .ok (.iload_n 2, 1) := by decide +kernel
theorem dX1_areDifferentTrains_3 : decode cX1_areDifferentTrains 3 = .ok (.istore 4, 2) := by decide +kernel
theorem dX1_areDifferentTrains_5 : decode cX1_areDifferentTrains 5 = .ok (.iconst 0, 1) := by decide +kernel
theorem dX1_areDifferentTrains_6 : decode cX1_areDifferentTrains 6 = .ok (.istore 5, 2) := by decide +kernel
theorem dX1_areDifferentTrains_8 : decode cX1_areDifferentTrains 8 = .ok (.iload 5, 2) := by decide +kernel
theorem dX1_areDifferentTrains_10 : decode cX1_areDifferentTrains 10 = .ok (.iload_n 1, 1) := by decide +kernel
theorem dX1_areDifferentTrains_11 : decode cX1_areDifferentTrains 11 = .ok (.if_icmp .ge 51, 3) := by decide +kernel
theorem dX1_areDifferentTrains_14 : decode cX1_areDifferentTrains 14 = .ok (.iload 4, 2) := by decide +kernel
theorem dX1_areDifferentTrains_16 : decode cX1_areDifferentTrains 16 = .ok (.bipush 10, 2) := by decide +kernel
theorem dX1_areDifferentTrains_18 : decode cX1_areDifferentTrains 18 = .ok (.irem, 1) := by decide +kernel
theorem dX1_areDifferentTrains_19 : decode cX1_areDifferentTrains 19 = .ok (.istore 6, 2) := by decide +kernel
theorem dX1_areDifferentTrains_21 : decode cX1_areDifferentTrains 21 = .ok (.iload 4, 2) := by decide +kernel
theorem dX1_areDifferentTrains_23 : decode cX1_areDifferentTrains 23 = .ok (.bipush 10, 2) := by decide +kernel
theorem dX1_areDifferentTrains_25 : decode cX1_areDifferentTrains 25 = .ok (.idiv, 1) := by decide +kernel
theorem dX1_areDifferentTrains_26 : decode cX1_areDifferentTrains 26 = .ok (.istore 4, 2) := by decide +kernel
theorem dX1_areDifferentTrains_28 : decode cX1_areDifferentTrains 28 = .ok (.aload_n 0, 1) := by decide +kernel
theorem dX1_areDifferentTrains_29 : decode cX1_areDifferentTrains 29 = .ok (.iload 6, 2) := by decide +kernel
theorem dX1_areDifferentTrains_31 : decode cX1_areDifferentTrains 31 = .ok (.invokevirtual 57, 3) := by decide +kernel
theorem dX1_areDifferentTrains_34 : decode cX1_areDifferentTrains 34 = .ok (.ifCond .eq 13, 3) := by decide +kernel
theorem dX1_areDifferentTrains_37 : decode cX1_areDifferentTrains 37 = .ok (.iload_n 3, 1) := by decide +kernel
theorem dX1_areDifferentTrains_38 : decode cX1_areDifferentTrains 38 = .ok (.iload 6, 2) := by decide +kernel
theorem dX1_areDifferentTrains_40 : decode cX1_areDifferentTrains 40 = .ok (.ishr, 1) := by decide +kernel
theorem dX1_areDifferentTrains_41 : decode cX1_areDifferentTrains 41 = .ok (.iconst 1, 1) := by decide +kernel
theorem dX1_areDifferentTrains_42 : decode cX1_areDifferentTrains 42 = .ok (.iand, 1) := by decide +kernel
theorem dX1_areDifferentTrains_43 : decode cX1_areDifferentTrains 43 = .ok (.iconst 1, 1) := by decide +kernel
theorem dX1_areDifferentTrains_44 : decode cX1_areDifferentTrains 44 = .ok (.if_icmp .ne 5, 3) := by decide +kernel
theorem dX1_areDifferentTrains_47 : decode cX1_areDifferentTrains 47 = .ok (.iconst 0, 1) := by decide +kernel
theorem dX1_areDifferentTrains_48 : decode cX1_areDifferentTrains 48 = .ok (.ireturn, 1) := by decide +kernel
theorem dX1_areDifferentTrains_49 : decode cX1_areDifferentTrains 49 = .ok (.iload_n 3, 1) := by decide +kernel
theorem dX1_areDifferentTrains_50 : decode cX1_areDifferentTrains 50 = .ok (.iconst 1, 1) := by decide +kernel
theorem dX1_areDifferentTrains_51 : decode cX1_areDifferentTrains 51 = .ok (.iload 6, 2) := by decide +kernel
theorem dX1_areDifferentTrains_53 : decode cX1_areDifferentTrains 53 = .ok (.ishl, 1) := by decide +kernel
theorem dX1_areDifferentTrains_54 : decode cX1_areDifferentTrains 54 = .ok (.ior, 1) := by decide +kernel
theorem dX1_areDifferentTrains_55 : decode cX1_areDifferentTrains 55 = .ok (.istore_n 3, 1) := by decide +kernel
theorem dX1_areDifferentTrains_56 : decode cX1_areDifferentTrains 56 = .ok (.iinc 5 1, 3) := by decide +kernel
theorem dX1_areDifferentTrains_59 : decode cX1_areDifferentTrains 59 = .ok (.goto (-51), 3) := by decide +kernel
theorem dX1_areDifferentTrains_62 : decode cX1_areDifferentTrains 62 = .ok (.iconst 1, 1) := by decide +kernel
theorem dX1_areDifferentTrains_63 : decode cX1_areDifferentTrains 63 = .ok (.ireturn, 1) := by decide +kernel
theorem dX1_putOrder_0 : decode cX1_putOrder 0 = .ok (.iload_n 2, 1) := by decide +kernel
theorem dX1_putOrder_1 : decode cX1_putOrder 1 = .ok (.istore_n 3, 1) := by decide +kernel
theorem dX1_putOrder_2 : decode cX1_putOrder 2 = .ok (.iconst 0, 1) := by decide +kernel
theorem dX1_putOrder_3 : decode cX1_putOrder 3 = .ok (.istore 4, 2) := by decide +kernel
theorem dX1_putOrder_5 : decode cX1_putOrder 5 = .ok (.iload 4, 2) := by decide +kernel
theorem dX1_putOrder_7 : decode cX1_putOrder 7 = .ok (.iload_n 1, 1) := by decide +kernel
theorem dX1_putOrder_8 : decode cX1_putOrder 8 = .ok (.if_icmp .ge 32, 3) := by decide +kernel
theorem dX1_putOrder_11 : decode cX1_putOrder 11 = .ok (.iload 4, 2) := by decide +kernel
theorem dX1_putOrder_13 : decode cX1_putOrder 13 = .ok (.bipush 8, 2) := by decide +kernel
theorem dX1_putOrder_15 : decode cX1_putOrder 15 = .ok (.if_icmp .ge 25, 3) := by decide +kernel
theorem dX1_putOrder_18 : decode cX1_putOrder 18 = .ok (.aload_n 0, 1) := by decide +kernel
theorem dX1_putOrder_19 : decode cX1_putOrder 19 = .ok (.getfield 27, 3) := by decide +kernel
theorem dX1_putOrder_22 : decode cX1_putOrder 22 = .ok (.iload 4, 2) := by decide +kernel
theorem dX1_putOrder_24 : decode cX1_putOrder 24 = .ok (.iload_n 3, 1) := by decide +kernel
theorem dX1_putOrder_25 : decode cX1_putOrder 25 = .ok (.bipush 10, 2) := by decide +kernel
theorem dX1_putOrder_27 : decode cX1_putOrder 27 = .ok (.irem, 1) := by decide +kernel
theorem dX1_putOrder_28 : decode cX1_putOrder 28 = .ok (.iastore, 1) := by decide +kernel
theorem dX1_putOrder_29 : decode cX1_putOrder 29 = .ok (.iload_n 3, 1) := by decide +kernel
theorem dX1_putOrder_30 : decode cX1_putOrder 30 = .ok (.bipush 10, 2) := by decide +kernel
theorem dX1_putOrder_32 : decode cX1_putOrder 32 = .ok (.idiv, 1) := by decide +kernel
theorem dX1_putOrder_33 : decode cX1_putOrder 33 = .ok (.istore_n 3, 1) := by decide +kernel
theorem dX1_putOrder_34 : decode cX1_putOrder 34 = .ok (.iinc 4 1, 3) := by decide +kernel
theorem dX1_putOrder_37 : decode cX1_putOrder 37 = .ok (.goto (-32), 3) := by decide +kernel
theorem dX1_putOrder_40 : decode cX1_putOrder 40 = .ok (.aload_n 0, 1) := by decide +kernel
theorem dX1_putOrder_41 : decode cX1_putOrder 41 = .ok (.iload_n 1, 1) := by decide +kernel
theorem dX1_putOrder_42 : decode cX1_putOrder 42 = .ok (.putfield 46, 3) := by decide +kernel
theorem dX1_putOrder_45 : decode cX1_putOrder 45 = .ok (.return_, 1) := by decide +kernel
theorem dX1_orderByNumber_0 : decode cX1_orderByNumber 0 = .ok (.aload_n 0, 1) := by decide +kernel
theorem dX1_orderByNumber_1 : decode cX1_orderByNumber 1 = .ok (.aload_n 0, 1) := by decide +kernel
theorem dX1_orderByNumber_2 : decode cX1_orderByNumber 2 = .ok (.getfield 40, 3) := by decide +kernel
theorem dX1_orderByNumber_5 : decode cX1_orderByNumber 5 = .ok (.putfield 46, 3) := by decide +kernel
theorem dX1_orderByNumber_8 : decode cX1_orderByNumber 8 = .ok (.iconst 0, 1) := by decide +kernel
theorem dX1_orderByNumber_9 : decode cX1_orderByNumber 9 = .ok (.istore_n 1, 1) := by decide +kernel
theorem dX1_orderByNumber_10 : decode cX1_orderByNumber 10 = .ok (.iload_n 1, 1) := by decide +kernel
theorem dX1_orderByNumber_11 : decode cX1_orderByNumber 11 = .ok (.aload_n 0, 1) := by decide +kernel
theorem dX1_orderByNumber_12 : decode cX1_orderByNumber 12 = .ok (.getfield 40, 3) := by decide +kernel
theorem dX1_orderByNumber_15 : decode cX1_orderByNumber 15 = .ok (.if_icmp .ge 16, 3) := by decide +kernel
theorem dX1_orderByNumber_18 : decode cX1_orderByNumber 18 = .ok (.aload_n 0, 1) := by decide +kernel
theorem dX1_orderByNumber_19 : decode cX1_orderByNumber 19 = .ok (.getfield 27, 3) := by decide +kernel
theorem dX1_orderByNumber_22 : decode cX1_orderByNumber 22 = .ok (.iload_n 1, 1) := by decide +kernel
theorem dX1_orderByNumber_23 : decode cX1_orderByNumber 23 = .ok (.iload_n 1, 1) := by decide +kernel
theorem dX1_orderByNumber_24 : decode cX1_orderByNumber 24 = .ok (.iastore, 1) := by decide +kernel
theorem dX1_orderByNumber_25 : decode cX1_orderByNumber 25 = .ok (.iinc 1 1, 3) := by decide +kernel
theorem dX1_orderByNumber_28 : decode cX1_orderByNumber 28 = .ok (.goto (-18), 3) := by decide +kernel
theorem dX1_orderByNumber_31 : decode cX1_orderByNumber 31 = .ok (.return_, 1) := by decide +kernel
theorem dX1_goToNextOrder_0 : decode cX1_goToNextOrder 0 = .ok (.aload_n 0, 1) := by decide +kernel
theorem dX1_goToNextOrder_1 : decode cX1_goToNextOrder 1 = .ok (.getfield 46, 3) := by decide +kernel
theorem dX1_goToNextOrder_4 : decode cX1_goToNextOrder 4 = .ok (.iconst 2, 1) := by decide +kernel
theorem dX1_goToNextOrder_5 : decode cX1_goToNextOrder 5 = .ok (.isub, 1) := by decide +kernel
theorem dX1_goToNextOrder_6 : decode cX1_goToNextOrder 6 = .ok (.istore_n 1, 1) := by decide +kernel
theorem dX1_goToNextOrder_7 : decode cX1_goToNextOrder 7 = .ok (.iload_n 1, 1) := by decide +kernel
theorem dX1_goToNextOrder_8 : decode cX1_goToNextOrder 8 = .ok (.ifCond .lt 26, 3) := by decide +kernel
theorem dX1_goToNextOrder_11 : decode cX1_goToNextOrder 11 = .ok (.aload_n 0, 1) := by decide +kernel
theorem dX1_goToNextOrder_12 : decode cX1_goToNextOrder 12 = .ok (.getfield 27, 3) := by decide +kernel
theorem dX1_goToNextOrder_15 : decode cX1_goToNextOrder 15 = .ok (.iload_n 1, 1) := by decide +kernel
theorem dX1_goToNextOrder_16 : decode cX1_goToNextOrder 16 = .ok (.iaload, 1) := by decide +kernel
theorem dX1_goToNextOrder_17 : decode cX1_goToNextOrder 17 = .ok (.aload_n 0, 1) := by decide +kernel
theorem dX1_goToNextOrder_18 : decode cX1_goToNextOrder 18 = .ok (.getfield 27, 3) := by decide +kernel
theorem dX1_goToNextOrder_21 : decode cX1_goToNextOrder 21 = .ok (.iload_n 1, 1) := by decide +kernel
theorem dX1_goToNextOrder_22 : decode cX1_goToNextOrder 22 = .ok (.iconst 1, 1) := by decide +kernel
theorem dX1_goToNextOrder_23 : decode cX1_goToNextOrder 23 = .ok (.iadd, 1) := by decide +kernel
theorem dX1_goToNextOrder_24 : decode cX1_goToNextOrder 24 = .ok (.iaload, 1) := by decide +kernel
theorem dX1_goToNextOrder_25 : decode cX1_goToNextOrder 25 = .ok (.if_icmp .le 9, 3) := by decide +kernel
theorem dX1_goToNextOrder_28 : decode cX1_goToNextOrder 28 = .ok (.iinc 1 (-1), 3) := by decide +kernel
theorem dX1_goToNextOrder_31 : decode cX1_goToNextOrder 31 = .ok (.goto (-24), 3) := by decide +kernel
theorem dX1_goToNextOrder_34 : decode cX1_goToNextOrder 34 = .ok (.iload_n 1, 1) := by decide +kernel
theorem dX1_goToNextOrder_35 : decode cX1_goToNextOrder 35 = .ok (.ifCond .ge 5, 3) := by decide +kernel
theorem dX1_goToNextOrder_38 : decode cX1_goToNextOrder 38 = .ok (.iconst 0, 1) := by decide +kernel
theorem dX1_goToNextOrder_39 : decode cX1_goToNextOrder 39 = .ok (.ireturn, 1) := by decide +kernel
theorem dX1_goToNextOrder_40 : decode cX1_goToNextOrder 40 = .ok (.aload_n 0, 1) := by decide +kernel
theorem dX1_goToNextOrder_41 : decode cX1_goToNextOrder 41 = .ok (.getfield 46, 3) := by decide +kernel
theorem dX1_goToNextOrder_44 : decode cX1_goToNextOrder 44 = .ok (.iconst 1, 1) := by decide +kernel
theorem dX1_goToNextOrder_45 : decode cX1_goToNextOrder 45 = .ok (.isub, 1) := by decide +kernel
theorem dX1_goToNextOrder_46 : decode cX1_goToNextOrder 46 = .ok (.istore_n 2, 1) := by decide +kernel
theorem dX1_goToNextOrder_47 : decode cX1_goToNextOrder 47 = .ok (.iload_n 2, 1) := by decide +kernel
theorem dX1_goToNextOrder_48 : decode cX1_goToNextOrder 48 = .ok (.iload_n 1, 1) := by decide +kernel
theorem dX1_goToNextOrder_49 : decode cX1_goToNextOrder 49 = .ok (.if_icmp .le 24, 3) := by decide +kernel
theorem dX1_goToNextOrder_52 : decode cX1_goToNextOrder 52 = .ok (.aload_n 0, 1) := by decide +kernel
theorem dX1_goToNextOrder_53 : decode cX1_goToNextOrder 53 = .ok (.getfield 27, 3) := by decide +kernel
theorem dX1_goToNextOrder_56 : decode cX1_goToNextOrder 56 = .ok (.iload_n 2, 1) := by decide +kernel
theorem dX1_goToNextOrder_57 : decode cX1_goToNextOrder 57 = .ok (.iaload, 1) := by decide +kernel
theorem dX1_goToNextOrder_58 : decode cX1_goToNextOrder 58 = .ok (.aload_n 0, 1) := by decide +kernel
theorem dX1_goToNextOrder_59 : decode cX1_goToNextOrder 59 = .ok (.getfield 27, 3) := by decide +kernel
theorem dX1_goToNextOrder_62 : decode cX1_goToNextOrder 62 = .ok (.iload_n 1, 1) := by decide +kernel
theorem dX1_goToNextOrder_63 : decode cX1_goToNextOrder 63 = .ok (.iaload, 1) := by decide +kernel
theorem dX1_goToNextOrder_64 : decode cX1_goToNextOrder 64 = .ok (.if_icmp .ge 9, 3) := by decide +kernel
theorem dX1_goToNextOrder_67 : decode cX1_goToNextOrder 67 = .ok (.iinc 2 (-1), 3) := by decide +kernel
theorem dX1_goToNextOrder_70 : decode cX1_goToNextOrder 70 = .ok (.goto (-23), 3) := by decide +kernel
theorem dX1_goToNextOrder_73 : decode cX1_goToNextOrder 73 = .ok (.aload_n 0, 1) := by decide +kernel
theorem dX1_goToNextOrder_74 : decode cX1_goToNextOrder 74 = .ok (.iload_n 1, 1) := by decide +kernel
theorem dX1_goToNextOrder_75 : decode cX1_goToNextOrder 75 = .ok (.iload_n 2, 1) := by decide +kernel
theorem dX1_goToNextOrder_76 : decode cX1_goToNextOrder 76 = .ok (.invokevirtual 61, 3) := by decide +kernel
theorem dX1_goToNextOrder_79 : decode cX1_goToNextOrder 79 = .ok (.iload_n 1, 1) := by decide +kernel
theorem dX1_goToNextOrder_80 : decode cX1_goToNextOrder 80 = .ok (.iconst 1, 1) := by decide +kernel
theorem dX1_goToNextOrder_81 : decode cX1_goToNextOrder 81 = .ok (.iadd, 1) := by decide +kernel
theorem dX1_goToNextOrder_82 : decode cX1_goToNextOrder 82 = .ok (.istore_n 3, 1) := by decide +kernel
theorem dX1_goToNextOrder_83 : decode cX1_goToNextOrder 83 = .ok (.aload_n 0, 1) := by decide +kernel
theorem dX1_goToNextOrder_84 : decode cX1_goToNextOrder 84 = .ok (.getfield 46, 3) := by decide +kernel
theorem dX1_goToNextOrder_87 : decode cX1_goToNextOrder 87 = .ok (.iconst 1, 1) := by decide +kernel
theorem dX1_goToNextOrder_88 : decode cX1_goToNextOrder 88 = .ok (.isub, 1) := by decide +kernel
theorem dX1_goToNextOrder_89 : decode cX1_goToNextOrder 89 = .ok (.istore 4, 2) := by decide +kernel
theorem dX1_goToNextOrder_91 : decode cX1_goToNextOrder 91 = .ok (.iload_n 3, 1) := by decide +kernel
theorem dX1_goToNextOrder_92 : decode cX1_goToNextOrder 92 = .ok (.iload 4, 2) := by decide +kernel
theorem dX1_goToNextOrder_94 : decode cX1_goToNextOrder 94 = .ok (.if_icmp .ge 19, 3) := by decide +kernel
theorem dX1_goToNextOrder_97 : decode cX1_goToNextOrder 97 = .ok (.aload_n 0, 1) := by decide +kernel
theorem dX1_goToNextOrder_98 : decode cX1_goToNextOrder 98 = .ok (.iload_n 3, 1) := by decide +kernel
theorem dX1_goToNextOrder_99 : decode cX1_goToNextOrder 99 = .ok (.iload 4, 2) := by decide +kernel
theorem dX1_goToNextOrder_101 : decode cX1_goToNextOrder 101 = .ok (.invokevirtual 61, 3) := by decide +kernel
theorem dX1_goToNextOrder_104 : decode cX1_goToNextOrder 104 = .ok (.iinc 3 1, 3) := by decide +kernel
theorem dX1_goToNextOrder_107 : decode cX1_goToNextOrder 107 = .ok (.iinc 4 (-1), 3) := by decide +kernel
theorem dX1_goToNextOrder_110 : decode cX1_goToNextOrder 110 = .ok (.goto (-19), 3) := by decide +kernel
theorem dX1_goToNextOrder_113 : decode cX1_goToNextOrder 113 = .ok (.iconst 1, 1) := by decide +kernel
theorem dX1_goToNextOrder_114 : decode cX1_goToNextOrder 114 = .ok (.ireturn, 1) := by decide +kernel
theorem dX1_swapInOrder_0 : decode cX1_swapInOrder 0 = .ok (.aload_n 0, 1) := by decide +kernel
theorem dX1_swapInOrder_1 : decode cX1_swapInOrder 1 = .ok (.getfield 27, 3) := by decide +kernel
theorem dX1_swapInOrder_4 : decode cX1_swapInOrder 4 = .ok (.iload_n 1, 1) := by decide +kernel
theorem dX1_swapInOrder_5 : decode cX1_swapInOrder 5 = .ok (.iaload, 1) := by decide +kernel
theorem dX1_swapInOrder_6 : decode cX1_swapInOrder 6 = .ok (.istore_n 3, 1) := by decide +kernel
theorem dX1_swapInOrder_7 : decode cX1_swapInOrder 7 = .ok (.aload_n 0, 1) := by decide +kernel
theorem dX1_swapInOrder_8 : decode cX1_swapInOrder 8 = .ok (.getfield 27, 3) := by decide +kernel
theorem dX1_swapInOrder_11 : decode cX1_swapInOrder 11 = .ok (.iload_n 1, 1) := by decide +kernel
theorem dX1_swapInOrder_12 : decode cX1_swapInOrder 12 = .ok (.aload_n 0, 1) := by decide +kernel
theorem dX1_swapInOrder_13 : decode cX1_swapInOrder 13 = .ok (.getfield 27, 3) := by decide +kernel
theorem dX1_swapInOrder_16 : decode cX1_swapInOrder 16 = .ok (.iload_n 2, 1) := by decide +kernel
theorem dX1_swapInOrder_17 : decode cX1_swapInOrder 17 = .ok (.iaload, 1) := by decide +kernel
theorem dX1_swapInOrder_18 : decode cX1_swapInOrder 18 = .ok (.iastore, 1) := by decide +kernel
theorem dX1_swapInOrder_19 : decode cX1_swapInOrder 19 = .ok (.aload_n 0, 1) := by decide +kernel
theorem dX1_swapInOrder_20 : decode cX1_swapInOrder 20 = .ok (.getfield 27, 3) := by decide +kernel
theorem dX1_swapInOrder_23 : decode cX1_swapInOrder 23 = .ok (.iload_n 2, 1) := by decide +kernel
theorem dX1_swapInOrder_24 : decode cX1_swapInOrder 24 = .ok (.iload_n 3, 1) := by decide +kernel
theorem dX1_swapInOrder_25 : decode cX1_swapInOrder 25 = .ok (.iastore, 1) := by decide +kernel
theorem dX1_swapInOrder_26 : decode cX1_swapInOrder 26 = .ok (.return_, 1) := by decide +kernel
theorem dX2_init_0 : decode cX2_init 0 = .ok (.aload_n 0, 1) := by decide +kernel
theorem dX2_init_1 : decode cX2_init 1 = .ok (.invokespecial 3, 3) := by decide +kernel
theorem dX2_init_4 : decode cX2_init 4 = .ok (.aload_n 0, 1) := by decide +kernel
theorem dX2_init_5 : decode cX2_init 5 = .ok (.new 9, 3) := by decide +kernel
theorem dX2_init_8 : decode cX2_init 8 = .ok (.dup, 1) := by decide +kernel
theorem dX2_init_9 : decode cX2_init 9 = .ok (.invokespecial 11, 3) := by decide +kernel
theorem dX2_init_12 : decode cX2_init 12 = .ok (.putfield 12, 3) := by decide +kernel
theorem dX2_init_15 : decode cX2_init 15 = .ok (.aload_n 0, 1) := by decide +kernel
theorem dX2_init_16 : decode cX2_init 16 = .ok (.bipush 16, 2) := by decide +kernel
theorem dX2_init_18 : decode cX2_init 18 = .ok (.newarray .int, 2) := by decide +kernel
theorem dX2_init_20 : decode cX2_init 20 = .ok (.putfield 18, 3) := by decide +kernel
theorem dX2_init_23 : decode cX2_init 23 = .ok (.return_, 1) := by decide +kernel
theorem dX2_add_0 : decode cX2_add 0 = .ok (.aload_n 0, 1) := by decide +kernel
theorem dX2_add_1 : decode cX2_add 1 = .ok (.getfield 22, 3) := by decide +kernel
theorem dX2_add_4 : decode cX2_add 4 = .ok (.bipush 16, 2) := by decide +kernel
theorem dX2_add_6 : decode cX2_add 6 = .ok (.if_icmp .ge 23, 3) := by decide +kernel
theorem dX2_add_9 : decode cX2_add 9 = .ok (.aload_n 0, 1) := by decide +kernel
theorem dX2_add_10 : decode cX2_add 10 = .ok (.getfield 18, 3) := by decide +kernel
theorem dX2_add_13 : decode cX2_add 13 = .ok (.aload_n 0, 1) := by decide +kernel
theorem dX2_add_14 : decode cX2_add 14 = .ok (.getfield 22, 3) := by decide +kernel
theorem dX2_add_17 : decode cX2_add 17 = .ok (.iload_n 1, 1) := by decide +kernel
theorem dX2_add_18 : decode cX2_add 18 = .ok (.iastore, 1) := by decide +kernel
theorem dX2_add_19 : decode cX2_add 19 = .ok (.aload_n 0, 1) := by decide +kernel
theorem dX2_add_20 : decode cX2_add 20 = .ok (.dup, 1) := by decide +kernel
theorem dX2_add_21 : decode cX2_add 21 = .ok (.getfield 22, 3) := by decide +kernel
theorem dX2_add_24 : decode cX2_add 24 = .ok (.iconst 1, 1) := by decide +kernel
theorem dX2_add_25 : decode cX2_add 25 = .ok (.iadd, 1) := by decide +kernel
theorem dX2_add_26 : decode cX2_add 26 = .ok (.putfield 22, 3) := by decide +kernel
theorem dX2_add_29 : decode cX2_add 29 = .ok (.return_, 1) := by decide +kernel
theorem dX2_lookAt_0 : decode cX2_lookAt 0 = .ok (.aload_n 0, 1) := by decide +kernel
theorem dX2_lookAt_1 : decode cX2_lookAt 1 = .ok (.bipush (-9), 2) := by decide +kernel
theorem dX2_lookAt_3 : decode cX2_lookAt 3 = .ok (.putfield 26, 3) := by decide +kernel
theorem dX2_lookAt_6 : decode cX2_lookAt 6 = .ok (.aload_n 0, 1) := by decide +kernel
theorem dX2_lookAt_7 : decode cX2_lookAt 7 = .ok (.bipush (-9), 2) := by decide +kernel
theorem dX2_lookAt_9 : decode cX2_lookAt 9 = .ok (.putfield 29, 3) := by decide +kernel
theorem dX2_lookAt_12 : decode cX2_lookAt 12 = .ok (.aload_n 0, 1) := by decide +kernel
theorem dX2_lookAt_13 : decode cX2_lookAt 13 = .ok (.iconst 0, 1) := by decide +kernel
theorem dX2_lookAt_14 : decode cX2_lookAt 14 = .ok (.putfield 32, 3) := by decide +kernel
theorem dX2_lookAt_17 : decode cX2_lookAt 17 = .ok (.aload_n 0, 1) := by decide +kernel
theorem dX2_lookAt_18 : decode cX2_lookAt 18 = .ok (.getfield 12, 3) := by decide +kernel
theorem dX2_lookAt_21 : decode cX2_lookAt 21 = .ok (.aload_n 1, 1) := by decide +kernel
theorem dX2_lookAt_22 : decode cX2_lookAt 22 = .ok (.invokevirtual 35, 3) := by decide +kernel
theorem dX2_lookAt_25 : decode cX2_lookAt 25 = .ok (.iconst 0, 1) := by decide +kernel
theorem dX2_lookAt_26 : decode cX2_lookAt 26 = .ok (.istore_n 2, 1) := by decide +kernel
theorem dX2_lookAt_27 : decode cX2_lookAt 27 = .ok (.iconst 0, 1) := by decide +kernel
theorem dX2_lookAt_28 : decode cX2_lookAt 28 = .ok (.istore_n 3, 1) := by decide +kernel
theorem dX2_lookAt_29 : decode cX2_lookAt 29 = .ok (.iload_n 3, 1) := by decide +kernel
theorem dX2_lookAt_30 : decode cX2_lookAt 30 = .ok (.aload_n 0, 1) := by decide +kernel
theorem dX2_lookAt_31 : decode cX2_lookAt 31 = .ok (.getfield 22, 3) := by decide +kernel
theorem dX2_lookAt_34 : decode cX2_lookAt 34 = .ok (.if_icmp .ge 75, 3) := by decide +kernel
theorem dX2_lookAt_37 : decode cX2_lookAt 37 = .ok (.iload_n 3, 1) := by decide +kernel
theorem dX2_lookAt_38 : decode cX2_lookAt 38 = .ok (.bipush 16, 2) := by decide +kernel
theorem dX2_lookAt_40 : decode cX2_lookAt 40 = .ok (.if_icmp .ge 69, 3) := by decide +kernel
theorem dX2_lookAt_43 : decode cX2_lookAt 43 = .ok (.aload_n 0, 1) := by decide +kernel
theorem dX2_lookAt_44 : decode cX2_lookAt 44 = .ok (.getfield 26, 3) := by decide +kernel
theorem dX2_lookAt_47 : decode cX2_lookAt 47 = .ok (.bipush (-9), 2) := by decide +kernel
theorem dX2_lookAt_49 : decode cX2_lookAt 49 = .ok (.if_icmp .ne 60, 3) := by decide +kernel
theorem dX2_lookAt_52 : decode cX2_lookAt 52 = .ok (.iload_n 2, 1) := by decide +kernel
theorem dX2_lookAt_53 : decode cX2_lookAt 53 = .ok (.aload_n 0, 1) := by decide +kernel
theorem dX2_lookAt_54 : decode cX2_lookAt 54 = .ok (.aload_n 1, 1) := by decide +kernel
theorem dX2_lookAt_55 : decode cX2_lookAt 55 = .ok (.aload_n 0, 1) := by decide +kernel
theorem dX2_lookAt_56 : decode cX2_lookAt 56 = .ok (.getfield 18, 3) := by decide +kernel
theorem dX2_lookAt_59 : decode cX2_lookAt 59 = .ok (.iload_n 3, 1) := by decide +kernel
theorem dX2_lookAt_60 : decode cX2_lookAt 60 = .ok (.iaload, 1) := by decide +kernel
theorem dX2_lookAt_61 : decode cX2_lookAt 61 = .ok (.invokevirtual 39, 3) := by decide +kernel
theorem dX2_lookAt_64 : decode cX2_lookAt 64 = .ok (.invokestatic 43, 3) := by decide +kernel
theorem dX2_lookAt_67 : decode cX2_lookAt 67 = .ok (.istore_n 2, 1) := by decide +kernel
theorem dX2_lookAt_68 : decode cX2_lookAt 68 = .ok (.iload_n 2, 1) := by decide +kernel
theorem dX2_lookAt_69 : decode cX2_lookAt 69 = .ok (.sipush 9999, 3) := by decide +kernel
theorem dX2_lookAt_72 : decode cX2_lookAt 72 = .ok (.if_icmp .le 11, 3) := by decide +kernel
theorem dX2_lookAt_75 : decode cX2_lookAt 75 = .ok (.aload_n 0, 1) := by decide +kernel
theorem dX2_lookAt_76 : decode cX2_lookAt 76 = .ok (.iload_n 3, 1) := by decide +kernel
theorem dX2_lookAt_77 : decode cX2_lookAt 77 = .ok (.putfield 26, 3) := by decide +kernel
theorem dX2_lookAt_80 : decode cX2_lookAt 80 = .ok (.goto 23, 3) := by decide +kernel
theorem dX2_lookAt_83 : decode cX2_lookAt 83 = .ok (.aload_n 0, 1) := by decide +kernel
theorem dX2_lookAt_84 : decode cX2_lookAt 84 = .ok (.aload_n 1, 1) := by decide +kernel
theorem dX2_lookAt_85 : decode cX2_lookAt 85 = .ok (.aload_n 0, 1) := by decide +kernel
theorem dX2_lookAt_86 : decode cX2_lookAt 86 = .ok (.getfield 18, 3) := by decide +kernel
theorem dX2_lookAt_89 : decode cX2_lookAt 89 = .ok (.iload_n 3, 1) := by decide +kernel
theorem dX2_lookAt_90 : decode cX2_lookAt 90 = .ok (.iaload, 1) := by decide +kernel
theorem dX2_lookAt_91 : decode cX2_lookAt 91 = .ok (.iload_n 2, 1) := by decide +kernel
theorem dX2_lookAt_92 : decode cX2_lookAt 92 = .ok (.invokevirtual 49, 3) := by decide +kernel
theorem dX2_lookAt_95 : decode cX2_lookAt 95 = .ok (.aload_n 0, 1) := by decide +kernel
theorem dX2_lookAt_96 : decode cX2_lookAt 96 = .ok (.iload_n 2, 1) := by decide +kernel
theorem dX2_lookAt_97 : decode cX2_lookAt 97 = .ok (.putfield 29, 3) := by decide +kernel
theorem dX2_lookAt_100 : decode cX2_lookAt 100 = .ok (.iinc 2 1, 3) := by decide +kernel
theorem dX2_lookAt_103 : decode cX2_lookAt 103 = .ok (.iinc 3 1, 3) := by decide +kernel
theorem dX2_lookAt_106 : decode cX2_lookAt 106 = .ok (.goto (-77), 3) := by decide +kernel
theorem dX2_lookAt_109 : decode cX2_lookAt 109 = .ok (.aload_n 0, 1) := by decide +kernel
theorem dX2_lookAt_110 : decode cX2_lookAt 110 = .ok (.iconst 0, 1) := by decide +kernel
theorem dX2_lookAt_111 : decode cX2_lookAt 111 = .ok (.putfield 22, 3) := by decide +kernel
theorem dX2_lookAt_114 : decode cX2_lookAt 114 = .ok (.return_, 1) := by decide +kernel
theorem dX2_canFrom_0 : decode cX2_canFrom 0 = .ok (.iload_n 2, 1) := by decide +kernel
theorem dX2_canFrom_1 : decode cX2_canFrom 1 = .ok (.bipush 9, 2) := by decide +kernel
theorem dX2_canFrom_3 : decode cX2_canFrom 3 = .ok (.if_icmp .ne 11, 3) := by decide +kernel
theorem dX2_canFrom_6 : decode cX2_canFrom 6 = .ok (.aload_n 0, 1) := by decide +kernel
theorem dX2_canFrom_7 : decode cX2_canFrom 7 = .ok (.getfield 12, 3) := by decide +kernel
theorem dX2_canFrom_10 : decode cX2_canFrom 10 = .ok (.getfield 53, 3) := by decide +kernel
theorem dX2_canFrom_13 : decode cX2_canFrom 13 = .ok (.ireturn, 1) := by decide +kernel
theorem dX2_canFrom_14 : decode cX2_canFrom 14 = .ok (.aload_n 1, 1) := by decide +kernel
theorem dX2_canFrom_15 : decode cX2_canFrom 15 = .ok (.iload_n 2, 1) := by decide +kernel
theorem dX2_canFrom_16 : decode cX2_canFrom 16 = .ok (.invokevirtual 56, 3) := by decide +kernel
theorem dX2_canFrom_19 : decode cX2_canFrom 19 = .ok (.ifCond .eq 15, 3) := by decide +kernel
theorem dX2_canFrom_22 : decode cX2_canFrom 22 = .ok (.aload_n 0, 1) := by decide +kernel
theorem dX2_canFrom_23 : decode cX2_canFrom 23 = .ok (.getfield 32, 3) := by decide +kernel
theorem dX2_canFrom_26 : decode cX2_canFrom 26 = .ok (.iload_n 2, 1) := by decide +kernel
theorem dX2_canFrom_27 : decode cX2_canFrom 27 = .ok (.ishr, 1) := by decide +kernel
theorem dX2_canFrom_28 : decode cX2_canFrom 28 = .ok (.iconst 1, 1) := by decide +kernel
theorem dX2_canFrom_29 : decode cX2_canFrom 29 = .ok (.iand, 1) := by decide +kernel
theorem dX2_canFrom_30 : decode cX2_canFrom 30 = .ok (.iconst 1, 1) := by decide +kernel
theorem dX2_canFrom_31 : decode cX2_canFrom 31 = .ok (.if_icmp .ne 6, 3) := by decide +kernel
theorem dX2_canFrom_34 : decode cX2_canFrom 34 = .ok (.ldc 62, 2) := by decide +kernel
theorem dX2_canFrom_36 : decode cX2_canFrom 36 = .ok (.ireturn, 1) := by decide +kernel
theorem dX2_canFrom_37 : decode cX2_canFrom 37 = .ok (.aload_n 1, 1) := by decide +kernel
theorem dX2_canFrom_38 : decode cX2_canFrom 38 = .ok (.aload_n 1, 1) := by decide +kernel
theorem dX2_canFrom_39 : decode cX2_canFrom 39 = .ok (.getfield 63, 3) := by decide +kernel
theorem dX2_canFrom_42 : decode cX2_canFrom 42 = .ok (.iload_n 2, 1) := by decide +kernel
theorem dX2_canFrom_43 : decode cX2_canFrom 43 = .ok (.iaload, 1) := by decide +kernel
theorem dX2_canFrom_44 : decode cX2_canFrom 44 = .ok (.invokevirtual 66, 3) := by decide +kernel
theorem dX2_canFrom_47 : decode cX2_canFrom 47 = .ok (.istore_n 3, 1) := by decide +kernel
theorem dX2_canFrom_48 : decode cX2_canFrom 48 = .ok (.iload_n 3, 1) := by decide +kernel
theorem dX2_canFrom_49 : decode cX2_canFrom 49 = .ok (.iconst 3, 1) := by decide +kernel
theorem dX2_canFrom_50 : decode cX2_canFrom 50 = .ok (.if_icmp .ne 8, 3) := by decide +kernel
theorem dX2_canFrom_53 : decode cX2_canFrom 53 = .ok (.ldc 62, 2) := by decide +kernel
theorem dX2_canFrom_55 : decode cX2_canFrom 55 = .ok (.goto 21, 3) := by decide +kernel
theorem dX2_canFrom_58 : decode cX2_canFrom 58 = .ok (.aload_n 1, 1) := by decide +kernel
theorem dX2_canFrom_59 : decode cX2_canFrom 59 = .ok (.getfield 70, 3) := by decide +kernel
theorem dX2_canFrom_62 : decode cX2_canFrom 62 = .ok (.iload_n 2, 1) := by decide +kernel
theorem dX2_canFrom_63 : decode cX2_canFrom 63 = .ok (.iaload, 1) := by decide +kernel
theorem dX2_canFrom_64 : decode cX2_canFrom 64 = .ok (.aload_n 0, 1) := by decide +kernel
theorem dX2_canFrom_65 : decode cX2_canFrom 65 = .ok (.getfield 12, 3) := by decide +kernel
theorem dX2_canFrom_68 : decode cX2_canFrom 68 = .ok (.getfield 73, 3) := by decide +kernel
theorem dX2_canFrom_71 : decode cX2_canFrom 71 = .ok (.iload_n 3, 1) := by decide +kernel
theorem dX2_canFrom_72 : decode cX2_canFrom 72 = .ok (.iaload, 1) := by decide +kernel
theorem dX2_canFrom_73 : decode cX2_canFrom 73 = .ok (.invokestatic 43, 3) := by decide +kernel
theorem dX2_canFrom_76 : decode cX2_canFrom 76 = .ok (.ireturn, 1) := by decide +kernel
theorem dX2_begin_0 : decode cX2_begin 0 = .ok (.iload_n 2, 1) := by decide +kernel
theorem dX2_begin_1 : decode cX2_begin 1 = .ok (.bipush 9, 2) := by decide +kernel
theorem dX2_begin_3 : decode cX2_begin 3 = .ok (.if_icmp .ne 14, 3) := by decide +kernel
theorem dX2_begin_6 : decode cX2_begin 6 = .ok (.aload_n 0, 1) := by decide +kernel
theorem dX2_begin_7 : decode cX2_begin 7 = .ok (.getfield 12, 3) := by decide +kernel
theorem dX2_begin_10 : decode cX2_begin 10 = .ok (.iload_n 3, 1) := by decide +kernel
theorem dX2_begin_11 : decode cX2_begin 11 = .ok (.invokevirtual 76, 3) := by decide +kernel
theorem dX2_begin_14 : decode cX2_begin 14 = .ok (.goto 41, 3) := by decide +kernel
theorem dX2_begin_17 : decode cX2_begin 17 = .ok (.aload_n 1, 1) := by decide +kernel
theorem dX2_begin_18 : decode cX2_begin 18 = .ok (.iload_n 2, 1) := by decide +kernel
theorem dX2_begin_19 : decode cX2_begin 19 = .ok (.invokevirtual 56, 3) := by decide +kernel
theorem dX2_begin_22 : decode cX2_begin 22 = .ok (.ifCond .eq 33, 3) := by decide +kernel
theorem dX2_begin_25 : decode cX2_begin 25 = .ok (.aload_n 0, 1) := by decide +kernel
theorem dX2_begin_26 : decode cX2_begin 26 = .ok (.getfield 12, 3) := by decide +kernel
theorem dX2_begin_29 : decode cX2_begin 29 = .ok (.aload_n 1, 1) := by decide +kernel
theorem dX2_begin_30 : decode cX2_begin 30 = .ok (.aload_n 1, 1) := by decide +kernel
theorem dX2_begin_31 : decode cX2_begin 31 = .ok (.getfield 63, 3) := by decide +kernel
theorem dX2_begin_34 : decode cX2_begin 34 = .ok (.iload_n 2, 1) := by decide +kernel
theorem dX2_begin_35 : decode cX2_begin 35 = .ok (.iaload, 1) := by decide +kernel
theorem dX2_begin_36 : decode cX2_begin 36 = .ok (.invokevirtual 66, 3) := by decide +kernel
theorem dX2_begin_39 : decode cX2_begin 39 = .ok (.iload_n 3, 1) := by decide +kernel
theorem dX2_begin_40 : decode cX2_begin 40 = .ok (.invokevirtual 80, 3) := by decide +kernel
theorem dX2_begin_43 : decode cX2_begin 43 = .ok (.aload_n 0, 1) := by decide +kernel
theorem dX2_begin_44 : decode cX2_begin 44 = .ok (.dup, 1) := by decide +kernel
theorem dX2_begin_45 : decode cX2_begin 45 = .ok (.getfield 32, 3) := by decide +kernel
theorem dX2_begin_48 : decode cX2_begin 48 = .ok (.iconst 1, 1) := by decide +kernel
theorem dX2_begin_49 : decode cX2_begin 49 = .ok (.iload_n 2, 1) := by decide +kernel
theorem dX2_begin_50 : decode cX2_begin 50 = .ok (.ishl, 1) := by decide +kernel
theorem dX2_begin_51 : decode cX2_begin 51 = .ok (.ior, 1) := by decide +kernel
theorem dX2_begin_52 : decode cX2_begin 52 = .ok (.putfield 32, 3) := by decide +kernel
theorem dX2_begin_55 : decode cX2_begin 55 = .ok (.return_, 1) := by decide +kernel
theorem dX3_init_0 : decode cX3_init 0 = .ok (.aload_n 0, 1) := by decide +kernel
theorem dX3_init_1 : decode cX3_init 1 = .ok (.invokespecial 3, 3) := by decide +kernel
theorem dX3_init_4 : decode cX3_init 4 = .ok (.aload_n 0, 1) := by decide +kernel
theorem dX3_init_5 : decode cX3_init 5 = .ok (.bipush 48, 2) := by decide +kernel
theorem dX3_init_7 : decode cX3_init 7 = .ok (.newarray .int, 2) := by decide +kernel
theorem dX3_init_9 : decode cX3_init 9 = .ok (.putfield 9, 3) := by decide +kernel
theorem dX3_init_12 : decode cX3_init 12 = .ok (.return_, 1) := by decide +kernel
theorem dX3_hasRoom_0 : decode cX3_hasRoom 0 = .ok (.iload_n 1, 1) := by decide +kernel
theorem dX3_hasRoom_1 : decode cX3_hasRoom 1 = .ok (.bipush 48, 2) := by decide +kernel
theorem dX3_hasRoom_3 : decode cX3_hasRoom 3 = .ok (.aload_n 0, 1) := by decide +kernel
theorem dX3_hasRoom_4 : decode cX3_hasRoom 4 = .ok (.getfield 15, 3) := by decide +kernel
theorem dX3_hasRoom_7 : decode cX3_hasRoom 7 = .ok (.isub, 1) := by decide +kernel
theorem dX3_hasRoom_8 : decode cX3_hasRoom 8 = .ok (.if_icmp .gt 7, 3) := by decide +kernel
theorem dX3_hasRoom_11 : decode cX3_hasRoom 11 = .ok (.iconst 1, 1) := by decide +kernel
theorem dX3_hasRoom_12 : decode cX3_hasRoom 12 = .ok (.goto 4, 3) := by decide +kernel
theorem dX3_hasRoom_15 : decode cX3_hasRoom 15 = .ok (.iconst 0, 1) := by decide +kernel
theorem dX3_hasRoom_16 : decode cX3_hasRoom 16 = .ok (.ireturn, 1) := by decide +kernel
theorem dX3_put_0 : decode cX3_put 0 = .ok (.iconst 0, 1) := by decide +kernel
theorem dX3_put_1 : decode cX3_put 1 = .ok (.istore 4, 2) := by decide +kernel
theorem dX3_put_3 : decode cX3_put 3 = .ok (.iload 4, 2) := by decide +kernel
theorem dX3_put_5 : decode cX3_put 5 = .ok (.iload_n 1, 1) := by decide +kernel
theorem dX3_put_6 : decode cX3_put 6 = .ok (.if_icmp .ge 49, 3) := by decide +kernel
theorem dX3_put_9 : decode cX3_put 9 = .ok (.aload_n 0, 1) := by decide +kernel
theorem dX3_put_10 : decode cX3_put 10 = .ok (.getfield 15, 3) := by decide +kernel
theorem dX3_put_13 : decode cX3_put 13 = .ok (.bipush 48, 2) := by decide +kernel
theorem dX3_put_15 : decode cX3_put 15 = .ok (.if_icmp .ge 40, 3) := by decide +kernel
theorem dX3_put_18 : decode cX3_put 18 = .ok (.aload_n 0, 1) := by decide +kernel
theorem dX3_put_19 : decode cX3_put 19 = .ok (.getfield 9, 3) := by decide +kernel
theorem dX3_put_22 : decode cX3_put 22 = .ok (.aload_n 0, 1) := by decide +kernel
theorem dX3_put_23 : decode cX3_put 23 = .ok (.getfield 15, 3) := by decide +kernel
theorem dX3_put_26 : decode cX3_put 26 = .ok (.lload_n 2, 1) := by decide +kernel
theorem dX3_put_27 : decode cX3_put 27 = .ok (.bipush 8, 2) := by decide +kernel
theorem dX3_put_29 : decode cX3_put 29 = .ok (.iload 4, 2) := by decide +kernel
theorem dX3_put_31 : decode cX3_put 31 = .ok (.imul, 1) := by decide +kernel
theorem dX3_put_32 : decode cX3_put 32 = .ok (.lushr, 1) := by decide +kernel
theorem dX3_put_33 : decode cX3_put 33 = .ok (.l2i, 1) := by decide +kernel
theorem dX3_put_34 : decode cX3_put 34 = .ok (.sipush 255, 3) := by decide +kernel
theorem dX3_put_37 : decode cX3_put 37 = .ok (.iand, 1) := by decide +kernel
theorem dX3_put_38 : decode cX3_put 38 = .ok (.iastore, 1) := by decide +kernel
theorem dX3_put_39 : decode cX3_put 39 = .ok (.aload_n 0, 1) := by decide +kernel
theorem dX3_put_40 : decode cX3_put 40 = .ok (.dup, 1) := by decide +kernel
theorem dX3_put_41 : decode cX3_put 41 = .ok (.getfield 15, 3) := by decide +kernel
theorem dX3_put_44 : decode cX3_put 44 = .ok (.iconst 1, 1) := by decide +kernel
theorem dX3_put_45 : decode cX3_put 45 = .ok (.iadd, 1) := by decide +kernel
theorem dX3_put_46 : decode cX3_put 46 = .ok (.putfield 15, 3) := by decide +kernel
theorem dX3_put_49 : decode cX3_put 49 = .ok (.iinc 4 1, 3) := by decide +kernel
theorem dX3_put_52 : decode cX3_put 52 = .ok (.goto (-49), 3) := by decide +kernel
theorem dX3_put_55 : decode cX3_put 55 = .ok (.return_, 1) := by decide +kernel
theorem dX3_readInto_0 : decode cX3_readInto 0 = .ok (.aload_n 0, 1) := by decide +kernel
theorem dX3_readInto_1 : decode cX3_readInto 1 = .ok (.invokevirtual 19, 3) := by decide +kernel
theorem dX3_readInto_4 : decode cX3_readInto 4 = .ok (.istore_n 2, 1) := by decide +kernel
theorem dX3_readInto_5 : decode cX3_readInto 5 = .ok (.iload_n 2, 1) := by decide +kernel
theorem dX3_readInto_6 : decode cX3_readInto 6 = .ok (.ifCond .lt 9, 3) := by decide +kernel
theorem dX3_readInto_9 : decode cX3_readInto 9 = .ok (.aload_n 0, 1) := by decide +kernel
theorem dX3_readInto_10 : decode cX3_readInto 10 = .ok (.aload_n 1, 1) := by decide +kernel
theorem dX3_readInto_11 : decode cX3_readInto 11 = .ok (.invokevirtual 23, 3) := by decide +kernel
theorem dX3_readInto_14 : decode cX3_readInto 14 = .ok (.istore_n 2, 1) := by decide +kernel
theorem dX3_readInto_15 : decode cX3_readInto 15 = .ok (.aload_n 0, 1) := by decide +kernel
theorem dX3_readInto_16 : decode cX3_readInto 16 = .ok (.iconst 0, 1) := by decide +kernel
theorem dX3_readInto_17 : decode cX3_readInto 17 = .ok (.putfield 15, 3) := by decide +kernel
theorem dX3_readInto_20 : decode cX3_readInto 20 = .ok (.iload_n 2, 1) := by decide +kernel
theorem dX3_readInto_21 : decode cX3_readInto 21 = .ok (.ireturn, 1) := by decide +kernel
theorem dX3_formFault_0 : decode cX3_formFault 0 = .ok (.aload_n 0, 1) := by decide +kernel
theorem dX3_formFault_1 : decode cX3_formFault 1 = .ok (.iconst 0, 1) := by decide +kernel
theorem dX3_formFault_2 : decode cX3_formFault 2 = .ok (.putfield 27, 3) := by decide +kernel
theorem dX3_formFault_5 : decode cX3_formFault 5 = .ok (.aload_n 0, 1) := by decide +kernel
theorem dX3_formFault_6 : decode cX3_formFault 6 = .ok (.iconst 0, 1) := by decide +kernel
theorem dX3_formFault_7 : decode cX3_formFault 7 = .ok (.putfield 30, 3) := by decide +kernel
theorem dX3_formFault_10 : decode cX3_formFault 10 = .ok (.aload_n 0, 1) := by decide +kernel
theorem dX3_formFault_11 : decode cX3_formFault 11 = .ok (.invokevirtual 34, 3) := by decide +kernel
theorem dX3_formFault_14 : decode cX3_formFault 14 = .ok (.iconst 1, 1) := by decide +kernel
theorem dX3_formFault_15 : decode cX3_formFault 15 = .ok (.istore_n 1, 1) := by decide +kernel
theorem dX3_formFault_16 : decode cX3_formFault 16 = .ok (.iload_n 1, 1) := by decide +kernel
theorem dX3_formFault_17 : decode cX3_formFault 17 = .ok (.bipush 48, 2) := by decide +kernel
theorem dX3_formFault_19 : decode cX3_formFault 19 = .ok (.if_icmp .ge 31, 3) := by decide +kernel
theorem dX3_formFault_22 : decode cX3_formFault 22 = .ok (.aload_n 0, 1) := by decide +kernel
theorem dX3_formFault_23 : decode cX3_formFault 23 = .ok (.getfield 30, 3) := by decide +kernel
theorem dX3_formFault_26 : decode cX3_formFault 26 = .ok (.ifCond .ne 24, 3) := by decide +kernel
theorem dX3_formFault_29 : decode cX3_formFault 29 = .ok (.aload_n 0, 1) := by decide +kernel
theorem dX3_formFault_30 : decode cX3_formFault 30 = .ok (.getfield 27, 3) := by decide +kernel
theorem dX3_formFault_33 : decode cX3_formFault 33 = .ok (.aload_n 0, 1) := by decide +kernel
theorem dX3_formFault_34 : decode cX3_formFault 34 = .ok (.getfield 15, 3) := by decide +kernel
theorem dX3_formFault_37 : decode cX3_formFault 37 = .ok (.if_icmp .ge 13, 3) := by decide +kernel
theorem dX3_formFault_40 : decode cX3_formFault 40 = .ok (.aload_n 0, 1) := by decide +kernel
theorem dX3_formFault_41 : decode cX3_formFault 41 = .ok (.invokevirtual 34, 3) := by decide +kernel
theorem dX3_formFault_44 : decode cX3_formFault 44 = .ok (.iinc 1 1, 3) := by decide +kernel
theorem dX3_formFault_47 : decode cX3_formFault 47 = .ok (.goto (-31), 3) := by decide +kernel
theorem dX3_formFault_50 : decode cX3_formFault 50 = .ok (.aload_n 0, 1) := by decide +kernel
theorem dX3_formFault_51 : decode cX3_formFault 51 = .ok (.getfield 30, 3) := by decide +kernel
theorem dX3_formFault_54 : decode cX3_formFault 54 = .ok (.ifCond .eq 14, 3) := by decide +kernel
theorem dX3_formFault_57 : decode cX3_formFault 57 = .ok (.sipush (-1000), 3) := by decide +kernel
theorem dX3_formFault_60 : decode cX3_formFault 60 = .ok (.aload_n 0, 1) := by decide +kernel
theorem dX3_formFault_61 : decode cX3_formFault 61 = .ok (.getfield 27, 3) := by decide +kernel
theorem dX3_formFault_64 : decode cX3_formFault 64 = .ok (.isub, 1) := by decide +kernel
theorem dX3_formFault_65 : decode cX3_formFault 65 = .ok (.goto 4, 3) := by decide +kernel
theorem dX3_formFault_68 : decode cX3_formFault 68 = .ok (.iconst 0, 1) := by decide +kernel
theorem dX3_formFault_69 : decode cX3_formFault 69 = .ok (.ireturn, 1) := by decide +kernel
theorem dX3_bring_0 : decode cX3_bring 0 = .ok (.aload_n 0, 1) := by decide +kernel
theorem dX3_bring_1 : decode cX3_bring 1 = .ok (.iconst 0, 1) := by decide +kernel
theorem dX3_bring_2 : decode cX3_bring 2 = .ok (.putfield 27, 3) := by decide +kernel
theorem dX3_bring_5 : decode cX3_bring 5 = .ok (.iconst 0, 1) := by decide +kernel
theorem dX3_bring_6 : decode cX3_bring 6 = .ok (.istore_n 2, 1) := by decide +kernel
theorem dX3_bring_7 : decode cX3_bring 7 = .ok (.iconst 0, 1) := by decide +kernel
theorem dX3_bring_8 : decode cX3_bring 8 = .ok (.istore_n 3, 1) := by decide +kernel
theorem dX3_bring_9 : decode cX3_bring 9 = .ok (.iload_n 3, 1) := by decide +kernel
theorem dX3_bring_10 : decode cX3_bring 10 = .ok (.bipush 48, 2) := by decide +kernel
theorem dX3_bring_12 : decode cX3_bring 12 = .ok (.if_icmp .ge 48, 3) := by decide +kernel
theorem dX3_bring_15 : decode cX3_bring 15 = .ok (.aload_n 0, 1) := by decide +kernel
theorem dX3_bring_16 : decode cX3_bring 16 = .ok (.getfield 27, 3) := by decide +kernel
theorem dX3_bring_19 : decode cX3_bring 19 = .ok (.aload_n 0, 1) := by decide +kernel
theorem dX3_bring_20 : decode cX3_bring 20 = .ok (.getfield 15, 3) := by decide +kernel
theorem dX3_bring_23 : decode cX3_bring 23 = .ok (.if_icmp .ge 37, 3) := by decide +kernel
theorem dX3_bring_26 : decode cX3_bring 26 = .ok (.aload_n 0, 1) := by decide +kernel
theorem dX3_bring_27 : decode cX3_bring 27 = .ok (.getfield 27, 3) := by decide +kernel
theorem dX3_bring_30 : decode cX3_bring 30 = .ok (.istore 4, 2) := by decide +kernel
theorem dX3_bring_32 : decode cX3_bring 32 = .ok (.aload_n 0, 1) := by decide +kernel
theorem dX3_bring_33 : decode cX3_bring 33 = .ok (.invokevirtual 34, 3) := by decide +kernel
theorem dX3_bring_36 : decode cX3_bring 36 = .ok (.aload_n 0, 1) := by decide +kernel
theorem dX3_bring_37 : decode cX3_bring 37 = .ok (.aload_n 1, 1) := by decide +kernel
theorem dX3_bring_38 : decode cX3_bring 38 = .ok (.invokevirtual 37, 3) := by decide +kernel
theorem dX3_bring_41 : decode cX3_bring 41 = .ok (.ifCond .ne 10, 3) := by decide +kernel
theorem dX3_bring_44 : decode cX3_bring 44 = .ok (.sipush (-2000), 3) := by decide +kernel
theorem dX3_bring_47 : decode cX3_bring 47 = .ok (.iload 4, 2) := by decide +kernel
theorem dX3_bring_49 : decode cX3_bring 49 = .ok (.isub, 1) := by decide +kernel
theorem dX3_bring_50 : decode cX3_bring 50 = .ok (.ireturn, 1) := by decide +kernel
theorem dX3_bring_51 : decode cX3_bring 51 = .ok (.iinc 2 1, 3) := by decide +kernel
theorem dX3_bring_54 : decode cX3_bring 54 = .ok (.iinc 3 1, 3) := by decide +kernel
theorem dX3_bring_57 : decode cX3_bring 57 = .ok (.goto (-48), 3) := by decide +kernel
theorem dX3_bring_60 : decode cX3_bring 60 = .ok (.iload_n 2, 1) := by decide +kernel
theorem dX3_bring_61 : decode cX3_bring 61 = .ok (.ireturn, 1) := by decide +kernel
theorem dX3_bringStatement_0 : decode cX3_bringStatement 0 = .ok (.aload_n 0, 1) := by decide +kernel
theorem dX3_bringStatement_1 : decode cX3_bringStatement 1 = .ok (.getfield 41, 3) := by decide +kernel
theorem dX3_bringStatement_4 : decode cX3_bringStatement 4 = .ok (.lookupswitch 64 #[(112, 28), (116, 51)], 28) := by decide +kernel
theorem dX3_bringStatement_32 : decode cX3_bringStatement 32 = .ok (.aload_n 1, 1) := by decide +kernel
theorem dX3_bringStatement_33 : decode cX3_bringStatement 33 = .ok (.aload_n 0, 1) := by decide +kernel
theorem dX3_bringStatement_34 : decode cX3_bringStatement 34 = .ok (.getfield 44, 3) := by decide +kernel
theorem dX3_bringStatement_37 : decode cX3_bringStatement 37 = .ok (.aload_n 0, 1) := by decide +kernel
theorem dX3_bringStatement_38 : decode cX3_bringStatement 38 = .ok (.getfield 47, 3) := by decide +kernel
theorem dX3_bringStatement_41 : decode cX3_bringStatement 41 = .ok (.bipush 100, 2) := by decide +kernel
theorem dX3_bringStatement_43 : decode cX3_bringStatement 43 = .ok (.if_icmp .ne 7, 3) := by decide +kernel
theorem dX3_bringStatement_46 : decode cX3_bringStatement 46 = .ok (.iconst 1, 1) := by decide +kernel
theorem dX3_bringStatement_47 : decode cX3_bringStatement 47 = .ok (.goto 4, 3) := by decide +kernel
theorem dX3_bringStatement_50 : decode cX3_bringStatement 50 = .ok (.iconst 0, 1) := by decide +kernel
theorem dX3_bringStatement_51 : decode cX3_bringStatement 51 = .ok (.invokevirtual 50, 3) := by decide +kernel
theorem dX3_bringStatement_54 : decode cX3_bringStatement 54 = .ok (.ireturn, 1) := by decide +kernel
theorem dX3_bringStatement_55 : decode cX3_bringStatement 55 = .ok (.aload_n 1, 1) := by decide +kernel
theorem dX3_bringStatement_56 : decode cX3_bringStatement 56 = .ok (.aload_n 0, 1) := by decide +kernel
theorem dX3_bringStatement_57 : decode cX3_bringStatement 57 = .ok (.getfield 44, 3) := by decide +kernel
theorem dX3_bringStatement_60 : decode cX3_bringStatement 60 = .ok (.aload_n 0, 1) := by decide +kernel
theorem dX3_bringStatement_61 : decode cX3_bringStatement 61 = .ok (.getfield 47, 3) := by decide +kernel
theorem dX3_bringStatement_64 : decode cX3_bringStatement 64 = .ok (.invokevirtual 56, 3) := by decide +kernel
theorem dX3_bringStatement_67 : decode cX3_bringStatement 67 = .ok (.ireturn, 1) := by decide +kernel
theorem dX3_bringStatement_68 : decode cX3_bringStatement 68 = .ok (.aload_n 1, 1) := by decide +kernel
theorem dX3_bringStatement_69 : decode cX3_bringStatement 69 = .ok (.aload_n 0, 1) := by decide +kernel
theorem dX3_bringStatement_70 : decode cX3_bringStatement 70 = .ok (.getfield 44, 3) := by decide +kernel
theorem dX3_bringStatement_73 : decode cX3_bringStatement 73 = .ok (.invokevirtual 59, 3) := by decide +kernel
theorem dX3_bringStatement_76 : decode cX3_bringStatement 76 = .ok (.ireturn, 1) := by decide +kernel
theorem dX3_readStatement_0 : decode cX3_readStatement 0 = .ok (.aload_n 0, 1) := by decide +kernel
theorem dX3_readStatement_1 : decode cX3_readStatement 1 = .ok (.aload_n 0, 1) := by decide +kernel
theorem dX3_readStatement_2 : decode cX3_readStatement 2 = .ok (.invokevirtual 63, 3) := by decide +kernel
theorem dX3_readStatement_5 : decode cX3_readStatement 5 = .ok (.putfield 41, 3) := by decide +kernel
theorem dX3_readStatement_8 : decode cX3_readStatement 8 = .ok (.aload_n 0, 1) := by decide +kernel
theorem dX3_readStatement_9 : decode cX3_readStatement 9 = .ok (.getfield 41, 3) := by decide +kernel
theorem dX3_readStatement_12 : decode cX3_readStatement 12 = .ok (.lookupswitch 164 #[(101, 142), (112, 36), (116, 93)], 36) := by decide +kernel
theorem dX3_readStatement_48 : decode cX3_readStatement 48 = .ok (.aload_n 0, 1) := by decide +kernel
theorem dX3_readStatement_49 : decode cX3_readStatement 49 = .ok (.dup, 1) := by decide +kernel
theorem dX3_readStatement_50 : decode cX3_readStatement 50 = .ok (.getfield 27, 3) := by decide +kernel
theorem dX3_readStatement_53 : decode cX3_readStatement 53 = .ok (.iconst 1, 1) := by decide +kernel
theorem dX3_readStatement_54 : decode cX3_readStatement 54 = .ok (.iadd, 1) := by decide +kernel
theorem dX3_readStatement_55 : decode cX3_readStatement 55 = .ok (.putfield 27, 3) := by decide +kernel
theorem dX3_readStatement_58 : decode cX3_readStatement 58 = .ok (.aload_n 0, 1) := by decide +kernel
theorem dX3_readStatement_59 : decode cX3_readStatement 59 = .ok (.aload_n 0, 1) := by decide +kernel
theorem dX3_readStatement_60 : decode cX3_readStatement 60 = .ok (.iconst 1, 1) := by decide +kernel
theorem dX3_readStatement_61 : decode cX3_readStatement 61 = .ok (.invokevirtual 66, 3) := by decide +kernel
theorem dX3_readStatement_64 : decode cX3_readStatement 64 = .ok (.putfield 44, 3) := by decide +kernel
theorem dX3_readStatement_67 : decode cX3_readStatement 67 = .ok (.aload_n 0, 1) := by decide +kernel
theorem dX3_readStatement_68 : decode cX3_readStatement 68 = .ok (.aload_n 0, 1) := by decide +kernel
theorem dX3_readStatement_69 : decode cX3_readStatement 69 = .ok (.invokevirtual 63, 3) := by decide +kernel
theorem dX3_readStatement_72 : decode cX3_readStatement 72 = .ok (.putfield 47, 3) := by decide +kernel
theorem dX3_readStatement_75 : decode cX3_readStatement 75 = .ok (.aload_n 0, 1) := by decide +kernel
theorem dX3_readStatement_76 : decode cX3_readStatement 76 = .ok (.aload_n 0, 1) := by decide +kernel
theorem dX3_readStatement_77 : decode cX3_readStatement 77 = .ok (.getfield 47, 3) := by decide +kernel
theorem dX3_readStatement_80 : decode cX3_readStatement 80 = .ok (.bipush 115, 2) := by decide +kernel
theorem dX3_readStatement_82 : decode cX3_readStatement 82 = .ok (.if_icmp .eq 12, 3) := by decide +kernel
theorem dX3_readStatement_85 : decode cX3_readStatement 85 = .ok (.aload_n 0, 1) := by decide +kernel
theorem dX3_readStatement_86 : decode cX3_readStatement 86 = .ok (.getfield 47, 3) := by decide +kernel
theorem dX3_readStatement_89 : decode cX3_readStatement 89 = .ok (.bipush 100, 2) := by decide +kernel
theorem dX3_readStatement_91 : decode cX3_readStatement 91 = .ok (.if_icmp .ne 7, 3) := by decide +kernel
theorem dX3_readStatement_94 : decode cX3_readStatement 94 = .ok (.iconst 1, 1) := by decide +kernel
theorem dX3_readStatement_95 : decode cX3_readStatement 95 = .ok (.goto 4, 3) := by decide +kernel
theorem dX3_readStatement_98 : decode cX3_readStatement 98 = .ok (.iconst 0, 1) := by decide +kernel
theorem dX3_readStatement_99 : decode cX3_readStatement 99 = .ok (.invokevirtual 70, 3) := by decide +kernel
theorem dX3_readStatement_102 : decode cX3_readStatement 102 = .ok (.goto 79, 3) := by decide +kernel
theorem dX3_readStatement_105 : decode cX3_readStatement 105 = .ok (.aload_n 0, 1) := by decide +kernel
theorem dX3_readStatement_106 : decode cX3_readStatement 106 = .ok (.dup, 1) := by decide +kernel
theorem dX3_readStatement_107 : decode cX3_readStatement 107 = .ok (.getfield 27, 3) := by decide +kernel
theorem dX3_readStatement_110 : decode cX3_readStatement 110 = .ok (.iconst 1, 1) := by decide +kernel
theorem dX3_readStatement_111 : decode cX3_readStatement 111 = .ok (.iadd, 1) := by decide +kernel
theorem dX3_readStatement_112 : decode cX3_readStatement 112 = .ok (.putfield 27, 3) := by decide +kernel
theorem dX3_readStatement_115 : decode cX3_readStatement 115 = .ok (.aload_n 0, 1) := by decide +kernel
theorem dX3_readStatement_116 : decode cX3_readStatement 116 = .ok (.aload_n 0, 1) := by decide +kernel
theorem dX3_readStatement_117 : decode cX3_readStatement 117 = .ok (.iconst 3, 1) := by decide +kernel
theorem dX3_readStatement_118 : decode cX3_readStatement 118 = .ok (.invokevirtual 66, 3) := by decide +kernel
theorem dX3_readStatement_121 : decode cX3_readStatement 121 = .ok (.putfield 44, 3) := by decide +kernel
theorem dX3_readStatement_124 : decode cX3_readStatement 124 = .ok (.aload_n 0, 1) := by decide +kernel
theorem dX3_readStatement_125 : decode cX3_readStatement 125 = .ok (.aload_n 0, 1) := by decide +kernel
theorem dX3_readStatement_126 : decode cX3_readStatement 126 = .ok (.invokevirtual 63, 3) := by decide +kernel
theorem dX3_readStatement_129 : decode cX3_readStatement 129 = .ok (.bipush 44, 2) := by decide +kernel
theorem dX3_readStatement_131 : decode cX3_readStatement 131 = .ok (.if_icmp .ne 7, 3) := by decide +kernel
theorem dX3_readStatement_134 : decode cX3_readStatement 134 = .ok (.iconst 1, 1) := by decide +kernel
theorem dX3_readStatement_135 : decode cX3_readStatement 135 = .ok (.goto 4, 3) := by decide +kernel
theorem dX3_readStatement_138 : decode cX3_readStatement 138 = .ok (.iconst 0, 1) := by decide +kernel
theorem dX3_readStatement_139 : decode cX3_readStatement 139 = .ok (.invokevirtual 70, 3) := by decide +kernel
theorem dX3_readStatement_142 : decode cX3_readStatement 142 = .ok (.aload_n 0, 1) := by decide +kernel
theorem dX3_readStatement_143 : decode cX3_readStatement 143 = .ok (.aload_n 0, 1) := by decide +kernel
theorem dX3_readStatement_144 : decode cX3_readStatement 144 = .ok (.iconst 3, 1) := by decide +kernel
theorem dX3_readStatement_145 : decode cX3_readStatement 145 = .ok (.invokevirtual 66, 3) := by decide +kernel
theorem dX3_readStatement_148 : decode cX3_readStatement 148 = .ok (.putfield 47, 3) := by decide +kernel
theorem dX3_readStatement_151 : decode cX3_readStatement 151 = .ok (.goto 30, 3) := by decide +kernel
theorem dX3_readStatement_154 : decode cX3_readStatement 154 = .ok (.aload_n 0, 1) := by decide +kernel
theorem dX3_readStatement_155 : decode cX3_readStatement 155 = .ok (.dup, 1) := by decide +kernel
theorem dX3_readStatement_156 : decode cX3_readStatement 156 = .ok (.getfield 27, 3) := by decide +kernel
theorem dX3_readStatement_159 : decode cX3_readStatement 159 = .ok (.iconst 1, 1) := by decide +kernel
theorem dX3_readStatement_160 : decode cX3_readStatement 160 = .ok (.iadd, 1) := by decide +kernel
theorem dX3_readStatement_161 : decode cX3_readStatement 161 = .ok (.putfield 27, 3) := by decide +kernel
theorem dX3_readStatement_164 : decode cX3_readStatement 164 = .ok (.aload_n 0, 1) := by decide +kernel
theorem dX3_readStatement_165 : decode cX3_readStatement 165 = .ok (.aload_n 0, 1) := by decide +kernel
theorem dX3_readStatement_166 : decode cX3_readStatement 166 = .ok (.iconst 1, 1) := by decide +kernel
theorem dX3_readStatement_167 : decode cX3_readStatement 167 = .ok (.invokevirtual 66, 3) := by decide +kernel
theorem dX3_readStatement_170 : decode cX3_readStatement 170 = .ok (.putfield 44, 3) := by decide +kernel
theorem dX3_readStatement_173 : decode cX3_readStatement 173 = .ok (.goto 8, 3) := by decide +kernel
theorem dX3_readStatement_176 : decode cX3_readStatement 176 = .ok (.aload_n 0, 1) := by decide +kernel
theorem dX3_readStatement_177 : decode cX3_readStatement 177 = .ok (.iconst 1, 1) := by decide +kernel
theorem dX3_readStatement_178 : decode cX3_readStatement 178 = .ok (.putfield 30, 3) := by decide +kernel
theorem dX3_readStatement_181 : decode cX3_readStatement 181 = .ok (.aload_n 0, 1) := by decide +kernel
theorem dX3_readStatement_182 : decode cX3_readStatement 182 = .ok (.aload_n 0, 1) := by decide +kernel
theorem dX3_readStatement_183 : decode cX3_readStatement 183 = .ok (.invokevirtual 63, 3) := by decide +kernel
theorem dX3_readStatement_186 : decode cX3_readStatement 186 = .ok (.bipush 59, 2) := by decide +kernel
theorem dX3_readStatement_188 : decode cX3_readStatement 188 = .ok (.if_icmp .ne 7, 3) := by decide +kernel
theorem dX3_readStatement_191 : decode cX3_readStatement 191 = .ok (.iconst 1, 1) := by decide +kernel
theorem dX3_readStatement_192 : decode cX3_readStatement 192 = .ok (.goto 4, 3) := by decide +kernel
theorem dX3_readStatement_195 : decode cX3_readStatement 195 = .ok (.iconst 0, 1) := by decide +kernel
theorem dX3_readStatement_196 : decode cX3_readStatement 196 = .ok (.invokevirtual 70, 3) := by decide +kernel
theorem dX3_readStatement_199 : decode cX3_readStatement 199 = .ok (.return_, 1) := by decide +kernel
theorem dX3_look_0 : decode cX3_look 0 = .ok (.aload_n 0, 1) := by decide +kernel
theorem dX3_look_1 : decode cX3_look 1 = .ok (.getfield 27, 3) := by decide +kernel
theorem dX3_look_4 : decode cX3_look 4 = .ok (.aload_n 0, 1) := by decide +kernel
theorem dX3_look_5 : decode cX3_look 5 = .ok (.getfield 15, 3) := by decide +kernel
theorem dX3_look_8 : decode cX3_look 8 = .ok (.if_icmp .ge 24, 3) := by decide +kernel
theorem dX3_look_11 : decode cX3_look 11 = .ok (.aload_n 0, 1) := by decide +kernel
theorem dX3_look_12 : decode cX3_look 12 = .ok (.getfield 27, 3) := by decide +kernel
theorem dX3_look_15 : decode cX3_look 15 = .ok (.bipush 48, 2) := by decide +kernel
theorem dX3_look_17 : decode cX3_look 17 = .ok (.if_icmp .ge 15, 3) := by decide +kernel
theorem dX3_look_20 : decode cX3_look 20 = .ok (.aload_n 0, 1) := by decide +kernel
theorem dX3_look_21 : decode cX3_look 21 = .ok (.getfield 9, 3) := by decide +kernel
theorem dX3_look_24 : decode cX3_look 24 = .ok (.aload_n 0, 1) := by decide +kernel
theorem dX3_look_25 : decode cX3_look 25 = .ok (.getfield 27, 3) := by decide +kernel
theorem dX3_look_28 : decode cX3_look 28 = .ok (.iaload, 1) := by decide +kernel
theorem dX3_look_29 : decode cX3_look 29 = .ok (.goto 4, 3) := by decide +kernel
theorem dX3_look_32 : decode cX3_look 32 = .ok (.iconst (-1), 1) := by decide +kernel
theorem dX3_look_33 : decode cX3_look 33 = .ok (.ireturn, 1) := by decide +kernel
theorem dX3_take_0 : decode cX3_take 0 = .ok (.iload_n 1, 1) := by decide +kernel
theorem dX3_take_1 : decode cX3_take 1 = .ok (.ifCond .ne 8, 3) := by decide +kernel
theorem dX3_take_4 : decode cX3_take 4 = .ok (.aload_n 0, 1) := by decide +kernel
theorem dX3_take_5 : decode cX3_take 5 = .ok (.iconst 1, 1) := by decide +kernel
theorem dX3_take_6 : decode cX3_take 6 = .ok (.putfield 30, 3) := by decide +kernel
theorem dX3_take_9 : decode cX3_take 9 = .ok (.aload_n 0, 1) := by decide +kernel
theorem dX3_take_10 : decode cX3_take 10 = .ok (.getfield 30, 3) := by decide +kernel
theorem dX3_take_13 : decode cX3_take 13 = .ok (.ifCond .ne 13, 3) := by decide +kernel
theorem dX3_take_16 : decode cX3_take 16 = .ok (.aload_n 0, 1) := by decide +kernel
theorem dX3_take_17 : decode cX3_take 17 = .ok (.dup, 1) := by decide +kernel
theorem dX3_take_18 : decode cX3_take 18 = .ok (.getfield 27, 3) := by decide +kernel
theorem dX3_take_21 : decode cX3_take 21 = .ok (.iconst 1, 1) := by decide +kernel
theorem dX3_take_22 : decode cX3_take 22 = .ok (.iadd, 1) := by decide +kernel
theorem dX3_take_23 : decode cX3_take 23 = .ok (.putfield 27, 3) := by decide +kernel
theorem dX3_take_26 : decode cX3_take 26 = .ok (.return_, 1) := by decide +kernel
theorem dX3_readNumber_0 : decode cX3_readNumber 0 = .ok (.iconst 0, 1) := by decide +kernel
theorem dX3_readNumber_1 : decode cX3_readNumber 1 = .ok (.istore_n 2, 1) := by decide +kernel
theorem dX3_readNumber_2 : decode cX3_readNumber 2 = .ok (.iconst 0, 1) := by decide +kernel
theorem dX3_readNumber_3 : decode cX3_readNumber 3 = .ok (.istore_n 3, 1) := by decide +kernel
theorem dX3_readNumber_4 : decode cX3_readNumber 4 = .ok (.aload_n 0, 1) := by decide +kernel
theorem dX3_readNumber_5 : decode cX3_readNumber 5 = .ok (.invokevirtual 63, 3) := by decide +kernel
theorem dX3_readNumber_8 : decode cX3_readNumber 8 = .ok (.istore 4, 2) := by decide +kernel
theorem dX3_readNumber_10 : decode cX3_readNumber 10 = .ok (.aload_n 0, 1) := by decide +kernel
theorem dX3_readNumber_11 : decode cX3_readNumber 11 = .ok (.getfield 30, 3) := by decide +kernel
theorem dX3_readNumber_14 : decode cX3_readNumber 14 = .ok (.ifCond .ne 55, 3) := by decide +kernel
theorem dX3_readNumber_17 : decode cX3_readNumber 17 = .ok (.iload_n 3, 1) := by decide +kernel
theorem dX3_readNumber_18 : decode cX3_readNumber 18 = .ok (.iload_n 1, 1) := by decide +kernel
theorem dX3_readNumber_19 : decode cX3_readNumber 19 = .ok (.if_icmp .ge 50, 3) := by decide +kernel
theorem dX3_readNumber_22 : decode cX3_readNumber 22 = .ok (.iload 4, 2) := by decide +kernel
theorem dX3_readNumber_24 : decode cX3_readNumber 24 = .ok (.bipush 48, 2) := by decide +kernel
theorem dX3_readNumber_26 : decode cX3_readNumber 26 = .ok (.if_icmp .lt 43, 3) := by decide +kernel
theorem dX3_readNumber_29 : decode cX3_readNumber 29 = .ok (.iload 4, 2) := by decide +kernel
theorem dX3_readNumber_31 : decode cX3_readNumber 31 = .ok (.bipush 57, 2) := by decide +kernel
theorem dX3_readNumber_33 : decode cX3_readNumber 33 = .ok (.if_icmp .gt 36, 3) := by decide +kernel
theorem dX3_readNumber_36 : decode cX3_readNumber 36 = .ok (.iload_n 2, 1) := by decide +kernel
theorem dX3_readNumber_37 : decode cX3_readNumber 37 = .ok (.bipush 10, 2) := by decide +kernel
theorem dX3_readNumber_39 : decode cX3_readNumber 39 = .ok (.imul, 1) := by decide +kernel
theorem dX3_readNumber_40 : decode cX3_readNumber 40 = .ok (.iload 4, 2) := by decide +kernel
theorem dX3_readNumber_42 : decode cX3_readNumber 42 = .ok (.iadd, 1) := by decide +kernel
theorem dX3_readNumber_43 : decode cX3_readNumber 43 = .ok (.bipush 48, 2) := by decide +kernel
theorem dX3_readNumber_45 : decode cX3_readNumber 45 = .ok (.isub, 1) := by decide +kernel
theorem dX3_readNumber_46 : decode cX3_readNumber 46 = .ok (.istore_n 2, 1) := by decide +kernel
theorem dX3_readNumber_47 : decode cX3_readNumber 47 = .ok (.iinc 3 1, 3) := by decide +kernel
theorem dX3_readNumber_50 : decode cX3_readNumber 50 = .ok (.aload_n 0, 1) := by decide +kernel
theorem dX3_readNumber_51 : decode cX3_readNumber 51 = .ok (.dup, 1) := by decide +kernel
theorem dX3_readNumber_52 : decode cX3_readNumber 52 = .ok (.getfield 27, 3) := by decide +kernel
theorem dX3_readNumber_55 : decode cX3_readNumber 55 = .ok (.iconst 1, 1) := by decide +kernel
theorem dX3_readNumber_56 : decode cX3_readNumber 56 = .ok (.iadd, 1) := by decide +kernel
theorem dX3_readNumber_57 : decode cX3_readNumber 57 = .ok (.putfield 27, 3) := by decide +kernel
theorem dX3_readNumber_60 : decode cX3_readNumber 60 = .ok (.aload_n 0, 1) := by decide +kernel
theorem dX3_readNumber_61 : decode cX3_readNumber 61 = .ok (.invokevirtual 63, 3) := by decide +kernel
theorem dX3_readNumber_64 : decode cX3_readNumber 64 = .ok (.istore 4, 2) := by decide +kernel
theorem dX3_readNumber_66 : decode cX3_readNumber 66 = .ok (.goto (-56), 3) := by decide +kernel
theorem dX3_readNumber_69 : decode cX3_readNumber 69 = .ok (.iload_n 3, 1) := by decide +kernel
theorem dX3_readNumber_70 : decode cX3_readNumber 70 = .ok (.ifCond .ne 8, 3) := by decide +kernel
theorem dX3_readNumber_73 : decode cX3_readNumber 73 = .ok (.aload_n 0, 1) := by decide +kernel
theorem dX3_readNumber_74 : decode cX3_readNumber 74 = .ok (.iconst 1, 1) := by decide +kernel
theorem dX3_readNumber_75 : decode cX3_readNumber 75 = .ok (.putfield 30, 3) := by decide +kernel
theorem dX3_readNumber_78 : decode cX3_readNumber 78 = .ok (.iload_n 2, 1) := by decide +kernel
theorem dX3_readNumber_79 : decode cX3_readNumber 79 = .ok (.ireturn, 1) := by decide +kernel
theorem dX4_init_0 : decode cX4_init 0 = .ok (.aload_n 0, 1) := by decide +kernel
theorem dX4_init_1 : decode cX4_init 1 = .ok (.invokespecial 3, 3) := by decide +kernel
theorem dX4_init_4 : decode cX4_init 4 = .ok (.aload_n 0, 1) := by decide +kernel
theorem dX4_init_5 : decode cX4_init 5 = .ok (.iconst 3, 1) := by decide +kernel
theorem dX4_init_6 : decode cX4_init 6 = .ok (.newarray .int, 2) := by decide +kernel
theorem dX4_init_8 : decode cX4_init 8 = .ok (.putfield 9, 3) := by decide +kernel
theorem dX4_init_11 : decode cX4_init 11 = .ok (.aload_n 0, 1) := by decide +kernel
theorem dX4_init_12 : decode cX4_init 12 = .ok (.iconst 3, 1) := by decide +kernel
theorem dX4_init_13 : decode cX4_init 13 = .ok (.newarray .int, 2) := by decide +kernel
theorem dX4_init_15 : decode cX4_init 15 = .ok (.putfield 15, 3) := by decide +kernel
theorem dX4_init_18 : decode cX4_init 18 = .ok (.aload_n 0, 1) := by decide +kernel
theorem dX4_init_19 : decode cX4_init 19 = .ok (.iconst 4, 1) := by decide +kernel
theorem dX4_init_20 : decode cX4_init 20 = .ok (.newarray .int, 2) := by decide +kernel
theorem dX4_init_22 : decode cX4_init 22 = .ok (.putfield 18, 3) := by decide +kernel
theorem dX4_init_25 : decode cX4_init 25 = .ok (.aload_n 0, 1) := by decide +kernel
theorem dX4_init_26 : decode cX4_init 26 = .ok (.iconst 4, 1) := by decide +kernel
theorem dX4_init_27 : decode cX4_init 27 = .ok (.newarray .boolean, 2) := by decide +kernel
theorem dX4_init_29 : decode cX4_init 29 = .ok (.putfield 21, 3) := by decide +kernel
theorem dX4_init_32 : decode cX4_init 32 = .ok (.return_, 1) := by decide +kernel
theorem dX4_start_0 : decode cX4_start 0 = .ok (.iconst 0, 1) := by decide +kernel
theorem dX4_start_1 : decode cX4_start 1 = .ok (.istore_n 2, 1) := by decide +kernel
theorem dX4_start_2 : decode cX4_start 2 = .ok (.iload_n 2, 1) := by decide +kernel
theorem dX4_start_3 : decode cX4_start 3 = .ok (.iconst 2, 1) := by decide +kernel
theorem dX4_start_4 : decode cX4_start 4 = .ok (.if_icmp .gt 20, 3) := by decide +kernel
theorem dX4_start_7 : decode cX4_start 7 = .ok (.aload_n 0, 1) := by decide +kernel
theorem dX4_start_8 : decode cX4_start 8 = .ok (.getfield 15, 3) := by decide +kernel
theorem dX4_start_11 : decode cX4_start 11 = .ok (.iload_n 2, 1) := by decide +kernel
theorem dX4_start_12 : decode cX4_start 12 = .ok (.aload_n 1, 1) := by decide +kernel
theorem dX4_start_13 : decode cX4_start 13 = .ok (.iload_n 2, 1) := by decide +kernel
theorem dX4_start_14 : decode cX4_start 14 = .ok (.invokevirtual 25, 3) := by decide +kernel
theorem dX4_start_17 : decode cX4_start 17 = .ok (.iastore, 1) := by decide +kernel
theorem dX4_start_18 : decode cX4_start 18 = .ok (.iinc 2 1, 3) := by decide +kernel
theorem dX4_start_21 : decode cX4_start 21 = .ok (.goto (-19), 3) := by decide +kernel
theorem dX4_start_24 : decode cX4_start 24 = .ok (.aload_n 0, 1) := by decide +kernel
theorem dX4_start_25 : decode cX4_start 25 = .ok (.aload_n 1, 1) := by decide +kernel
theorem dX4_start_26 : decode cX4_start 26 = .ok (.invokevirtual 30, 3) := by decide +kernel
theorem dX4_start_29 : decode cX4_start 29 = .ok (.putfield 34, 3) := by decide +kernel
theorem dX4_start_32 : decode cX4_start 32 = .ok (.aload_n 0, 1) := by decide +kernel
theorem dX4_start_33 : decode cX4_start 33 = .ok (.aload_n 1, 1) := by decide +kernel
theorem dX4_start_34 : decode cX4_start 34 = .ok (.getfield 38, 3) := by decide +kernel
theorem dX4_start_37 : decode cX4_start 37 = .ok (.iconst 5, 1) := by decide +kernel
theorem dX4_start_38 : decode cX4_start 38 = .ok (.iaload, 1) := by decide +kernel
theorem dX4_start_39 : decode cX4_start 39 = .ok (.putfield 41, 3) := by decide +kernel
theorem dX4_start_42 : decode cX4_start 42 = .ok (.aload_n 0, 1) := by decide +kernel
theorem dX4_start_43 : decode cX4_start 43 = .ok (.aload_n 1, 1) := by decide +kernel
theorem dX4_start_44 : decode cX4_start 44 = .ok (.invokevirtual 44, 3) := by decide +kernel
theorem dX4_start_47 : decode cX4_start 47 = .ok (.ifCond .le 7, 3) := by decide +kernel
theorem dX4_start_50 : decode cX4_start 50 = .ok (.iconst 1, 1) := by decide +kernel
theorem dX4_start_51 : decode cX4_start 51 = .ok (.goto 4, 3) := by decide +kernel
theorem dX4_start_54 : decode cX4_start 54 = .ok (.iconst 0, 1) := by decide +kernel
theorem dX4_start_55 : decode cX4_start 55 = .ok (.putfield 47, 3) := by decide +kernel
theorem dX4_start_58 : decode cX4_start 58 = .ok (.aload_n 0, 1) := by decide +kernel
theorem dX4_start_59 : decode cX4_start 59 = .ok (.aload_n 1, 1) := by decide +kernel
theorem dX4_start_60 : decode cX4_start 60 = .ok (.getfield 51, 3) := by decide +kernel
theorem dX4_start_63 : decode cX4_start 63 = .ok (.putfield 54, 3) := by decide +kernel
theorem dX4_start_66 : decode cX4_start 66 = .ok (.aload_n 0, 1) := by decide +kernel
theorem dX4_start_67 : decode cX4_start 67 = .ok (.iconst 0, 1) := by decide +kernel
theorem dX4_start_68 : decode cX4_start 68 = .ok (.putfield 55, 3) := by decide +kernel
theorem dX4_start_71 : decode cX4_start 71 = .ok (.aload_n 0, 1) := by decide +kernel
theorem dX4_start_72 : decode cX4_start 72 = .ok (.iconst 0, 1) := by decide +kernel
theorem dX4_start_73 : decode cX4_start 73 = .ok (.putfield 58, 3) := by decide +kernel
theorem dX4_start_76 : decode cX4_start 76 = .ok (.aload_n 0, 1) := by decide +kernel
theorem dX4_start_77 : decode cX4_start 77 = .ok (.iconst 0, 1) := by decide +kernel
theorem dX4_start_78 : decode cX4_start 78 = .ok (.putfield 61, 3) := by decide +kernel
theorem dX4_start_81 : decode cX4_start 81 = .ok (.aload_n 0, 1) := by decide +kernel
theorem dX4_start_82 : decode cX4_start 82 = .ok (.iconst 0, 1) := by decide +kernel
theorem dX4_start_83 : decode cX4_start 83 = .ok (.putfield 64, 3) := by decide +kernel
theorem dX4_start_86 : decode cX4_start 86 = .ok (.aload_n 0, 1) := by decide +kernel
theorem dX4_start_87 : decode cX4_start 87 = .ok (.iconst 0, 1) := by decide +kernel
theorem dX4_start_88 : decode cX4_start 88 = .ok (.putfield 67, 3) := by decide +kernel
theorem dX4_start_91 : decode cX4_start 91 = .ok (.iconst 0, 1) := by decide +kernel
theorem dX4_start_92 : decode cX4_start 92 = .ok (.istore_n 2, 1) := by decide +kernel
theorem dX4_start_93 : decode cX4_start 93 = .ok (.iload_n 2, 1) := by decide +kernel
theorem dX4_start_94 : decode cX4_start 94 = .ok (.iconst 4, 1) := by decide +kernel
theorem dX4_start_95 : decode cX4_start 95 = .ok (.if_icmp .ge 23, 3) := by decide +kernel
theorem dX4_start_98 : decode cX4_start 98 = .ok (.aload_n 0, 1) := by decide +kernel
theorem dX4_start_99 : decode cX4_start 99 = .ok (.getfield 18, 3) := by decide +kernel
theorem dX4_start_102 : decode cX4_start 102 = .ok (.iload_n 2, 1) := by decide +kernel
theorem dX4_start_103 : decode cX4_start 103 = .ok (.iconst 0, 1) := by decide +kernel
theorem dX4_start_104 : decode cX4_start 104 = .ok (.iastore, 1) := by decide +kernel
theorem dX4_start_105 : decode cX4_start 105 = .ok (.aload_n 0, 1) := by decide +kernel
theorem dX4_start_106 : decode cX4_start 106 = .ok (.getfield 21, 3) := by decide +kernel
theorem dX4_start_109 : decode cX4_start 109 = .ok (.iload_n 2, 1) := by decide +kernel
theorem dX4_start_110 : decode cX4_start 110 = .ok (.iconst 0, 1) := by decide +kernel
theorem dX4_start_111 : decode cX4_start 111 = .ok (.bastore, 1) := by decide +kernel
theorem dX4_start_112 : decode cX4_start 112 = .ok (.iinc 2 1, 3) := by decide +kernel
theorem dX4_start_115 : decode cX4_start 115 = .ok (.goto (-22), 3) := by decide +kernel
theorem dX4_start_118 : decode cX4_start 118 = .ok (.aload_n 0, 1) := by decide +kernel
theorem dX4_start_119 : decode cX4_start 119 = .ok (.invokevirtual 70, 3) := by decide +kernel
theorem dX4_start_122 : decode cX4_start 122 = .ok (.return_, 1) := by decide +kernel
theorem dX4_goUp_0 : decode cX4_goUp 0 = .ok (.iload_n 1, 1) := by decide +kernel
theorem dX4_goUp_1 : decode cX4_goUp 1 = .ok (.ifCond .lt 8, 3) := by decide +kernel
theorem dX4_goUp_4 : decode cX4_goUp 4 = .ok (.iload_n 1, 1) := by decide +kernel
theorem dX4_goUp_5 : decode cX4_goUp 5 = .ok (.iconst 2, 1) := by decide +kernel
theorem dX4_goUp_6 : decode cX4_goUp 6 = .ok (.if_icmp .le 4, 3) := by decide +kernel
theorem dX4_goUp_9 : decode cX4_goUp 9 = .ok (.return_, 1) := by decide +kernel
theorem dX4_goUp_10 : decode cX4_goUp 10 = .ok (.iload_n 2, 1) := by decide +kernel
theorem dX4_goUp_11 : decode cX4_goUp 11 = .ok (.aload_n 0, 1) := by decide +kernel
theorem dX4_goUp_12 : decode cX4_goUp 12 = .ok (.getfield 15, 3) := by decide +kernel
theorem dX4_goUp_15 : decode cX4_goUp 15 = .ok (.iload_n 1, 1) := by decide +kernel
theorem dX4_goUp_16 : decode cX4_goUp 16 = .ok (.iaload, 1) := by decide +kernel
theorem dX4_goUp_17 : decode cX4_goUp 17 = .ok (.iadd, 1) := by decide +kernel
theorem dX4_goUp_18 : decode cX4_goUp 18 = .ok (.istore_n 3, 1) := by decide +kernel
theorem dX4_goUp_19 : decode cX4_goUp 19 = .ok (.aload_n 0, 1) := by decide +kernel
theorem dX4_goUp_20 : decode cX4_goUp 20 = .ok (.aload_n 0, 1) := by decide +kernel
theorem dX4_goUp_21 : decode cX4_goUp 21 = .ok (.getfield 55, 3) := by decide +kernel
theorem dX4_goUp_24 : decode cX4_goUp 24 = .ok (.iload_n 3, 1) := by decide +kernel
theorem dX4_goUp_25 : decode cX4_goUp 25 = .ok (.invokestatic 73, 3) := by decide +kernel
theorem dX4_goUp_28 : decode cX4_goUp 28 = .ok (.putfield 55, 3) := by decide +kernel
theorem dX4_goUp_31 : decode cX4_goUp 31 = .ok (.aload_n 0, 1) := by decide +kernel
theorem dX4_goUp_32 : decode cX4_goUp 32 = .ok (.iload_n 2, 1) := by decide +kernel
theorem dX4_goUp_33 : decode cX4_goUp 33 = .ok (.aload_n 0, 1) := by decide +kernel
theorem dX4_goUp_34 : decode cX4_goUp 34 = .ok (.getfield 41, 3) := by decide +kernel
theorem dX4_goUp_37 : decode cX4_goUp 37 = .ok (.iadd, 1) := by decide +kernel
theorem dX4_goUp_38 : decode cX4_goUp 38 = .ok (.putfield 64, 3) := by decide +kernel
theorem dX4_goUp_41 : decode cX4_goUp 41 = .ok (.iload_n 1, 1) := by decide +kernel
theorem dX4_goUp_42 : decode cX4_goUp 42 = .ok (.iconst 2, 1) := by decide +kernel
theorem dX4_goUp_43 : decode cX4_goUp 43 = .ok (.if_icmp .ne 8, 3) := by decide +kernel
theorem dX4_goUp_46 : decode cX4_goUp 46 = .ok (.aload_n 0, 1) := by decide +kernel
theorem dX4_goUp_47 : decode cX4_goUp 47 = .ok (.iload_n 3, 1) := by decide +kernel
theorem dX4_goUp_48 : decode cX4_goUp 48 = .ok (.putfield 61, 3) := by decide +kernel
theorem dX4_goUp_51 : decode cX4_goUp 51 = .ok (.iload_n 1, 1) := by decide +kernel
theorem dX4_goUp_52 : decode cX4_goUp 52 = .ok (.ifCond .eq 9, 3) := by decide +kernel
theorem dX4_goUp_55 : decode cX4_goUp 55 = .ok (.aload_n 0, 1) := by decide +kernel
theorem dX4_goUp_56 : decode cX4_goUp 56 = .ok (.iconst 0, 1) := by decide +kernel
theorem dX4_goUp_57 : decode cX4_goUp 57 = .ok (.iload_n 3, 1) := by decide +kernel
theorem dX4_goUp_58 : decode cX4_goUp 58 = .ok (.invokevirtual 79, 3) := by decide +kernel
theorem dX4_goUp_61 : decode cX4_goUp 61 = .ok (.aload_n 0, 1) := by decide +kernel
theorem dX4_goUp_62 : decode cX4_goUp 62 = .ok (.invokevirtual 70, 3) := by decide +kernel
theorem dX4_goUp_65 : decode cX4_goUp 65 = .ok (.return_, 1) := by decide +kernel
theorem dX4_comeDown_0 : decode cX4_comeDown 0 = .ok (.aload_n 0, 1) := by decide +kernel
theorem dX4_comeDown_1 : decode cX4_comeDown 1 = .ok (.iload_n 1, 1) := by decide +kernel
theorem dX4_comeDown_2 : decode cX4_comeDown 2 = .ok (.aload_n 0, 1) := by decide +kernel
theorem dX4_comeDown_3 : decode cX4_comeDown 3 = .ok (.getfield 34, 3) := by decide +kernel
theorem dX4_comeDown_6 : decode cX4_comeDown 6 = .ok (.iadd, 1) := by decide +kernel
theorem dX4_comeDown_7 : decode cX4_comeDown 7 = .ok (.putfield 58, 3) := by decide +kernel
theorem dX4_comeDown_10 : decode cX4_comeDown 10 = .ok (.aload_n 0, 1) := by decide +kernel
theorem dX4_comeDown_11 : decode cX4_comeDown 11 = .ok (.iload_n 1, 1) := by decide +kernel
theorem dX4_comeDown_12 : decode cX4_comeDown 12 = .ok (.aload_n 0, 1) := by decide +kernel
theorem dX4_comeDown_13 : decode cX4_comeDown 13 = .ok (.getfield 41, 3) := by decide +kernel
theorem dX4_comeDown_16 : decode cX4_comeDown 16 = .ok (.iadd, 1) := by decide +kernel
theorem dX4_comeDown_17 : decode cX4_comeDown 17 = .ok (.putfield 67, 3) := by decide +kernel
theorem dX4_comeDown_20 : decode cX4_comeDown 20 = .ok (.aload_n 0, 1) := by decide +kernel
theorem dX4_comeDown_21 : decode cX4_comeDown 21 = .ok (.iconst 1, 1) := by decide +kernel
theorem dX4_comeDown_22 : decode cX4_comeDown 22 = .ok (.aload_n 0, 1) := by decide +kernel
theorem dX4_comeDown_23 : decode cX4_comeDown 23 = .ok (.getfield 58, 3) := by decide +kernel
theorem dX4_comeDown_26 : decode cX4_comeDown 26 = .ok (.invokevirtual 79, 3) := by decide +kernel
theorem dX4_comeDown_29 : decode cX4_comeDown 29 = .ok (.aload_n 0, 1) := by decide +kernel
theorem dX4_comeDown_30 : decode cX4_comeDown 30 = .ok (.invokevirtual 70, 3) := by decide +kernel
theorem dX4_comeDown_33 : decode cX4_comeDown 33 = .ok (.return_, 1) := by decide +kernel
theorem dX4_lookAhead_0 : decode cX4_lookAhead 0 = .ok (.aload_n 0, 1) := by decide +kernel
theorem dX4_lookAhead_1 : decode cX4_lookAhead 1 = .ok (.iconst 0, 1) := by decide +kernel
theorem dX4_lookAhead_2 : decode cX4_lookAhead 2 = .ok (.invokevirtual 83, 3) := by decide +kernel
theorem dX4_lookAhead_5 : decode cX4_lookAhead 5 = .ok (.istore_n 1, 1) := by decide +kernel
theorem dX4_lookAhead_6 : decode cX4_lookAhead 6 = .ok (.aload_n 0, 1) := by decide +kernel
theorem dX4_lookAhead_7 : decode cX4_lookAhead 7 = .ok (.iconst 1, 1) := by decide +kernel
theorem dX4_lookAhead_8 : decode cX4_lookAhead 8 = .ok (.invokevirtual 83, 3) := by decide +kernel
theorem dX4_lookAhead_11 : decode cX4_lookAhead 11 = .ok (.istore_n 2, 1) := by decide +kernel
theorem dX4_lookAhead_12 : decode cX4_lookAhead 12 = .ok (.aload_n 0, 1) := by decide +kernel
theorem dX4_lookAhead_13 : decode cX4_lookAhead 13 = .ok (.iload_n 1, 1) := by decide +kernel
theorem dX4_lookAhead_14 : decode cX4_lookAhead 14 = .ok (.ifCond .ge 8, 3) := by decide +kernel
theorem dX4_lookAhead_17 : decode cX4_lookAhead 17 = .ok (.ldc 87, 2) := by decide +kernel
theorem dX4_lookAhead_19 : decode cX4_lookAhead 19 = .ok (.goto 9, 3) := by decide +kernel
theorem dX4_lookAhead_22 : decode cX4_lookAhead 22 = .ok (.aload_n 0, 1) := by decide +kernel
theorem dX4_lookAhead_23 : decode cX4_lookAhead 23 = .ok (.getfield 18, 3) := by decide +kernel
theorem dX4_lookAhead_26 : decode cX4_lookAhead 26 = .ok (.iload_n 1, 1) := by decide +kernel
theorem dX4_lookAhead_27 : decode cX4_lookAhead 27 = .ok (.iaload, 1) := by decide +kernel
theorem dX4_lookAhead_28 : decode cX4_lookAhead 28 = .ok (.putfield 88, 3) := by decide +kernel
theorem dX4_lookAhead_31 : decode cX4_lookAhead 31 = .ok (.aload_n 0, 1) := by decide +kernel
theorem dX4_lookAhead_32 : decode cX4_lookAhead 32 = .ok (.getfield 61, 3) := by decide +kernel
theorem dX4_lookAhead_35 : decode cX4_lookAhead 35 = .ok (.aload_n 0, 1) := by decide +kernel
theorem dX4_lookAhead_36 : decode cX4_lookAhead 36 = .ok (.getfield 64, 3) := by decide +kernel
theorem dX4_lookAhead_39 : decode cX4_lookAhead 39 = .ok (.invokestatic 73, 3) := by decide +kernel
theorem dX4_lookAhead_42 : decode cX4_lookAhead 42 = .ok (.istore_n 3, 1) := by decide +kernel
theorem dX4_lookAhead_43 : decode cX4_lookAhead 43 = .ok (.aload_n 0, 1) := by decide +kernel
theorem dX4_lookAhead_44 : decode cX4_lookAhead 44 = .ok (.getfield 61, 3) := by decide +kernel
theorem dX4_lookAhead_47 : decode cX4_lookAhead 47 = .ok (.aload_n 0, 1) := by decide +kernel
theorem dX4_lookAhead_48 : decode cX4_lookAhead 48 = .ok (.getfield 67, 3) := by decide +kernel
theorem dX4_lookAhead_51 : decode cX4_lookAhead 51 = .ok (.invokestatic 73, 3) := by decide +kernel
theorem dX4_lookAhead_54 : decode cX4_lookAhead 54 = .ok (.istore 4, 2) := by decide +kernel
theorem dX4_lookAhead_56 : decode cX4_lookAhead 56 = .ok (.aload_n 0, 1) := by decide +kernel
theorem dX4_lookAhead_57 : decode cX4_lookAhead 57 = .ok (.getfield 47, 3) := by decide +kernel
theorem dX4_lookAhead_60 : decode cX4_lookAhead 60 = .ok (.ifCond .eq 23, 3) := by decide +kernel
theorem dX4_lookAhead_63 : decode cX4_lookAhead 63 = .ok (.iload_n 3, 1) := by decide +kernel
theorem dX4_lookAhead_64 : decode cX4_lookAhead 64 = .ok (.aload_n 0, 1) := by decide +kernel
theorem dX4_lookAhead_65 : decode cX4_lookAhead 65 = .ok (.getfield 58, 3) := by decide +kernel
theorem dX4_lookAhead_68 : decode cX4_lookAhead 68 = .ok (.invokestatic 73, 3) := by decide +kernel
theorem dX4_lookAhead_71 : decode cX4_lookAhead 71 = .ok (.istore_n 3, 1) := by decide +kernel
theorem dX4_lookAhead_72 : decode cX4_lookAhead 72 = .ok (.iload 4, 2) := by decide +kernel
theorem dX4_lookAhead_74 : decode cX4_lookAhead 74 = .ok (.aload_n 0, 1) := by decide +kernel
theorem dX4_lookAhead_75 : decode cX4_lookAhead 75 = .ok (.getfield 55, 3) := by decide +kernel
theorem dX4_lookAhead_78 : decode cX4_lookAhead 78 = .ok (.invokestatic 73, 3) := by decide +kernel
theorem dX4_lookAhead_81 : decode cX4_lookAhead 81 = .ok (.istore 4, 2) := by decide +kernel
theorem dX4_lookAhead_83 : decode cX4_lookAhead 83 = .ok (.aload_n 0, 1) := by decide +kernel
theorem dX4_lookAhead_84 : decode cX4_lookAhead 84 = .ok (.getfield 9, 3) := by decide +kernel
theorem dX4_lookAhead_87 : decode cX4_lookAhead 87 = .ok (.iconst 0, 1) := by decide +kernel
theorem dX4_lookAhead_88 : decode cX4_lookAhead 88 = .ok (.iload_n 3, 1) := by decide +kernel
theorem dX4_lookAhead_89 : decode cX4_lookAhead 89 = .ok (.iastore, 1) := by decide +kernel
theorem dX4_lookAhead_90 : decode cX4_lookAhead 90 = .ok (.aload_n 0, 1) := by decide +kernel
theorem dX4_lookAhead_91 : decode cX4_lookAhead 91 = .ok (.getfield 9, 3) := by decide +kernel
theorem dX4_lookAhead_94 : decode cX4_lookAhead 94 = .ok (.iconst 1, 1) := by decide +kernel
theorem dX4_lookAhead_95 : decode cX4_lookAhead 95 = .ok (.iload_n 3, 1) := by decide +kernel
theorem dX4_lookAhead_96 : decode cX4_lookAhead 96 = .ok (.aload_n 0, 1) := by decide +kernel
theorem dX4_lookAhead_97 : decode cX4_lookAhead 97 = .ok (.getfield 88, 3) := by decide +kernel
theorem dX4_lookAhead_100 : decode cX4_lookAhead 100 = .ok (.invokestatic 73, 3) := by decide +kernel
theorem dX4_lookAhead_103 : decode cX4_lookAhead 103 = .ok (.iastore, 1) := by decide +kernel
theorem dX4_lookAhead_104 : decode cX4_lookAhead 104 = .ok (.aload_n 0, 1) := by decide +kernel
theorem dX4_lookAhead_105 : decode cX4_lookAhead 105 = .ok (.getfield 9, 3) := by decide +kernel
theorem dX4_lookAhead_108 : decode cX4_lookAhead 108 = .ok (.iconst 2, 1) := by decide +kernel
theorem dX4_lookAhead_109 : decode cX4_lookAhead 109 = .ok (.aload_n 0, 1) := by decide +kernel
theorem dX4_lookAhead_110 : decode cX4_lookAhead 110 = .ok (.getfield 9, 3) := by decide +kernel
theorem dX4_lookAhead_113 : decode cX4_lookAhead 113 = .ok (.iconst 1, 1) := by decide +kernel
theorem dX4_lookAhead_114 : decode cX4_lookAhead 114 = .ok (.iaload, 1) := by decide +kernel
theorem dX4_lookAhead_115 : decode cX4_lookAhead 115 = .ok (.aload_n 0, 1) := by decide +kernel
theorem dX4_lookAhead_116 : decode cX4_lookAhead 116 = .ok (.getfield 55, 3) := by decide +kernel
theorem dX4_lookAhead_119 : decode cX4_lookAhead 119 = .ok (.aload_n 0, 1) := by decide +kernel
theorem dX4_lookAhead_120 : decode cX4_lookAhead 120 = .ok (.getfield 58, 3) := by decide +kernel
theorem dX4_lookAhead_123 : decode cX4_lookAhead 123 = .ok (.invokestatic 73, 3) := by decide +kernel
theorem dX4_lookAhead_126 : decode cX4_lookAhead 126 = .ok (.invokestatic 73, 3) := by decide +kernel
theorem dX4_lookAhead_129 : decode cX4_lookAhead 129 = .ok (.iastore, 1) := by decide +kernel
theorem dX4_lookAhead_130 : decode cX4_lookAhead 130 = .ok (.aload_n 0, 1) := by decide +kernel
theorem dX4_lookAhead_131 : decode cX4_lookAhead 131 = .ok (.iload_n 2, 1) := by decide +kernel
theorem dX4_lookAhead_132 : decode cX4_lookAhead 132 = .ok (.ifCond .ge 8, 3) := by decide +kernel
theorem dX4_lookAhead_135 : decode cX4_lookAhead 135 = .ok (.ldc 87, 2) := by decide +kernel
theorem dX4_lookAhead_137 : decode cX4_lookAhead 137 = .ok (.goto 14, 3) := by decide +kernel
theorem dX4_lookAhead_140 : decode cX4_lookAhead 140 = .ok (.iload 4, 2) := by decide +kernel
theorem dX4_lookAhead_142 : decode cX4_lookAhead 142 = .ok (.aload_n 0, 1) := by decide +kernel
theorem dX4_lookAhead_143 : decode cX4_lookAhead 143 = .ok (.getfield 18, 3) := by decide +kernel
theorem dX4_lookAhead_146 : decode cX4_lookAhead 146 = .ok (.iload_n 2, 1) := by decide +kernel
theorem dX4_lookAhead_147 : decode cX4_lookAhead 147 = .ok (.iaload, 1) := by decide +kernel
theorem dX4_lookAhead_148 : decode cX4_lookAhead 148 = .ok (.invokestatic 73, 3) := by decide +kernel
theorem dX4_lookAhead_151 : decode cX4_lookAhead 151 = .ok (.putfield 91, 3) := by decide +kernel
theorem dX4_lookAhead_154 : decode cX4_lookAhead 154 = .ok (.return_, 1) := by decide +kernel
theorem dX4_firstEngine_0 : decode cX4_firstEngine 0 = .ok (.iconst (-1), 1) := by decide +kernel
theorem dX4_firstEngine_1 : decode cX4_firstEngine 1 = .ok (.istore_n 2, 1) := by decide +kernel
theorem dX4_firstEngine_2 : decode cX4_firstEngine 2 = .ok (.iconst 0, 1) := by decide +kernel
theorem dX4_firstEngine_3 : decode cX4_firstEngine 3 = .ok (.istore_n 3, 1) := by decide +kernel
theorem dX4_firstEngine_4 : decode cX4_firstEngine 4 = .ok (.iload_n 3, 1) := by decide +kernel
theorem dX4_firstEngine_5 : decode cX4_firstEngine 5 = .ok (.aload_n 0, 1) := by decide +kernel
theorem dX4_firstEngine_6 : decode cX4_firstEngine 6 = .ok (.getfield 54, 3) := by decide +kernel
theorem dX4_firstEngine_9 : decode cX4_firstEngine 9 = .ok (.if_icmp .ge 45, 3) := by decide +kernel
theorem dX4_firstEngine_12 : decode cX4_firstEngine 12 = .ok (.iload_n 3, 1) := by decide +kernel
theorem dX4_firstEngine_13 : decode cX4_firstEngine 13 = .ok (.iconst 4, 1) := by decide +kernel
theorem dX4_firstEngine_14 : decode cX4_firstEngine 14 = .ok (.if_icmp .ge 40, 3) := by decide +kernel
theorem dX4_firstEngine_17 : decode cX4_firstEngine 17 = .ok (.aload_n 0, 1) := by decide +kernel
theorem dX4_firstEngine_18 : decode cX4_firstEngine 18 = .ok (.getfield 21, 3) := by decide +kernel
theorem dX4_firstEngine_21 : decode cX4_firstEngine 21 = .ok (.iload_n 3, 1) := by decide +kernel
theorem dX4_firstEngine_22 : decode cX4_firstEngine 22 = .ok (.baload, 1) := by decide +kernel
theorem dX4_firstEngine_23 : decode cX4_firstEngine 23 = .ok (.iload_n 1, 1) := by decide +kernel
theorem dX4_firstEngine_24 : decode cX4_firstEngine 24 = .ok (.if_icmp .ne 24, 3) := by decide +kernel
theorem dX4_firstEngine_27 : decode cX4_firstEngine 27 = .ok (.iload_n 2, 1) := by decide +kernel
theorem dX4_firstEngine_28 : decode cX4_firstEngine 28 = .ok (.ifCond .lt 18, 3) := by decide +kernel
theorem dX4_firstEngine_31 : decode cX4_firstEngine 31 = .ok (.aload_n 0, 1) := by decide +kernel
theorem dX4_firstEngine_32 : decode cX4_firstEngine 32 = .ok (.getfield 18, 3) := by decide +kernel
theorem dX4_firstEngine_35 : decode cX4_firstEngine 35 = .ok (.iload_n 3, 1) := by decide +kernel
theorem dX4_firstEngine_36 : decode cX4_firstEngine 36 = .ok (.iaload, 1) := by decide +kernel
theorem dX4_firstEngine_37 : decode cX4_firstEngine 37 = .ok (.aload_n 0, 1) := by decide +kernel
theorem dX4_firstEngine_38 : decode cX4_firstEngine 38 = .ok (.getfield 18, 3) := by decide +kernel
theorem dX4_firstEngine_41 : decode cX4_firstEngine 41 = .ok (.iload_n 2, 1) := by decide +kernel
theorem dX4_firstEngine_42 : decode cX4_firstEngine 42 = .ok (.iaload, 1) := by decide +kernel
theorem dX4_firstEngine_43 : decode cX4_firstEngine 43 = .ok (.if_icmp .ge 5, 3) := by decide +kernel
theorem dX4_firstEngine_46 : decode cX4_firstEngine 46 = .ok (.iload_n 3, 1) := by decide +kernel
theorem dX4_firstEngine_47 : decode cX4_firstEngine 47 = .ok (.istore_n 2, 1) := by decide +kernel
theorem dX4_firstEngine_48 : decode cX4_firstEngine 48 = .ok (.iinc 3 1, 3) := by decide +kernel
theorem dX4_firstEngine_51 : decode cX4_firstEngine 51 = .ok (.goto (-47), 3) := by decide +kernel
theorem dX4_firstEngine_54 : decode cX4_firstEngine 54 = .ok (.iload_n 2, 1) := by decide +kernel
theorem dX4_firstEngine_55 : decode cX4_firstEngine 55 = .ok (.ireturn, 1) := by decide +kernel
theorem dX4_moveEngine_0 : decode cX4_moveEngine 0 = .ok (.aload_n 0, 1) := by decide +kernel
theorem dX4_moveEngine_1 : decode cX4_moveEngine 1 = .ok (.iload_n 1, 1) := by decide +kernel
theorem dX4_moveEngine_2 : decode cX4_moveEngine 2 = .ok (.invokevirtual 83, 3) := by decide +kernel
theorem dX4_moveEngine_5 : decode cX4_moveEngine 5 = .ok (.istore_n 3, 1) := by decide +kernel
theorem dX4_moveEngine_6 : decode cX4_moveEngine 6 = .ok (.iload_n 3, 1) := by decide +kernel
theorem dX4_moveEngine_7 : decode cX4_moveEngine 7 = .ok (.ifCond .lt 25, 3) := by decide +kernel
theorem dX4_moveEngine_10 : decode cX4_moveEngine 10 = .ok (.aload_n 0, 1) := by decide +kernel
theorem dX4_moveEngine_11 : decode cX4_moveEngine 11 = .ok (.getfield 21, 3) := by decide +kernel
theorem dX4_moveEngine_14 : decode cX4_moveEngine 14 = .ok (.iload_n 3, 1) := by decide +kernel
theorem dX4_moveEngine_15 : decode cX4_moveEngine 15 = .ok (.iload_n 1, 1) := by decide +kernel
theorem dX4_moveEngine_16 : decode cX4_moveEngine 16 = .ok (.ifCond .ne 7, 3) := by decide +kernel
theorem dX4_moveEngine_19 : decode cX4_moveEngine 19 = .ok (.iconst 1, 1) := by decide +kernel
theorem dX4_moveEngine_20 : decode cX4_moveEngine 20 = .ok (.goto 4, 3) := by decide +kernel
theorem dX4_moveEngine_23 : decode cX4_moveEngine 23 = .ok (.iconst 0, 1) := by decide +kernel
theorem dX4_moveEngine_24 : decode cX4_moveEngine 24 = .ok (.bastore, 1) := by decide +kernel
theorem dX4_moveEngine_25 : decode cX4_moveEngine 25 = .ok (.aload_n 0, 1) := by decide +kernel
theorem dX4_moveEngine_26 : decode cX4_moveEngine 26 = .ok (.getfield 18, 3) := by decide +kernel
theorem dX4_moveEngine_29 : decode cX4_moveEngine 29 = .ok (.iload_n 3, 1) := by decide +kernel
theorem dX4_moveEngine_30 : decode cX4_moveEngine 30 = .ok (.iload_n 2, 1) := by decide +kernel
theorem dX4_moveEngine_31 : decode cX4_moveEngine 31 = .ok (.iastore, 1) := by decide +kernel
theorem dX4_moveEngine_32 : decode cX4_moveEngine 32 = .ok (.return_, 1) := by decide +kernel
