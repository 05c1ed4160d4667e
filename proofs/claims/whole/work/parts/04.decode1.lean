/-! decode rows -/
theorem dX5_init_0 : decode cX5_init 0 = .ok (.aload_n 0, 1) := by decide +kernel
theorem dX5_init_1 : decode cX5_init 1 = .ok (.invokespecial 1, 3) := by decide +kernel
theorem dX5_init_4 : decode cX5_init 4 = .ok (.aload_n 0, 1) := by decide +kernel
theorem dX5_init_5 : decode cX5_init 5 = .ok (.new 7, 3) := by decide +kernel
theorem dX5_init_8 : decode cX5_init 8 = .ok (.dup, 1) := by decide +kernel
theorem dX5_init_9 : decode cX5_init 9 = .ok (.invokespecial 9, 3) := by decide +kernel
theorem dX5_init_12 : decode cX5_init 12 = .ok (.putfield 10, 3) := by decide +kernel
theorem dX5_init_15 : decode cX5_init 15 = .ok (.aload_n 0, 1) := by decide +kernel
theorem dX5_init_16 : decode cX5_init 16 = .ok (.aload_n 0, 1) := by decide +kernel
theorem dX5_init_17 : decode cX5_init 17 = .ok (.getfield 10, 3) := by decide +kernel
theorem dX5_init_20 : decode cX5_init 20 = .ok (.getfield 16, 3) := by decide +kernel
theorem dX5_init_23 : decode cX5_init 23 = .ok (.putfield 20, 3) := by decide +kernel
theorem dX5_init_26 : decode cX5_init 26 = .ok (.aload_n 0, 1) := by decide +kernel
theorem dX5_init_27 : decode cX5_init 27 = .ok (.new 7, 3) := by decide +kernel
theorem dX5_init_30 : decode cX5_init 30 = .ok (.dup, 1) := by decide +kernel
theorem dX5_init_31 : decode cX5_init 31 = .ok (.invokespecial 9, 3) := by decide +kernel
theorem dX5_init_34 : decode cX5_init 34 = .ok (.putfield 21, 3) := by decide +kernel
theorem dX5_init_37 : decode cX5_init 37 = .ok (.aload_n 0, 1) := by decide +kernel
theorem dX5_init_38 : decode cX5_init 38 = .ok (.aload_n 0, 1) := by decide +kernel
theorem dX5_init_39 : decode cX5_init 39 = .ok (.getfield 21, 3) := by decide +kernel
theorem dX5_init_42 : decode cX5_init 42 = .ok (.getfield 16, 3) := by decide +kernel
theorem dX5_init_45 : decode cX5_init 45 = .ok (.putfield 24, 3) := by decide +kernel
theorem dX5_init_48 : decode cX5_init 48 = .ok (.aload_n 0, 1) := by decide +kernel
theorem dX5_init_49 : decode cX5_init 49 = .ok (.new 27, 3) := by decide +kernel
theorem dX5_init_52 : decode cX5_init 52 = .ok (.dup, 1) := by decide +kernel
theorem dX5_init_53 : decode cX5_init 53 = .ok (.invokespecial 29, 3) := by decide +kernel
theorem dX5_init_56 : decode cX5_init 56 = .ok (.putfield 30, 3) := by decide +kernel
theorem dX5_init_59 : decode cX5_init 59 = .ok (.aload_n 0, 1) := by decide +kernel
theorem dX5_init_60 : decode cX5_init 60 = .ok (.new 33, 3) := by decide +kernel
theorem dX5_init_63 : decode cX5_init 63 = .ok (.dup, 1) := by decide +kernel
theorem dX5_init_64 : decode cX5_init 64 = .ok (.invokespecial 35, 3) := by decide +kernel
theorem dX5_init_67 : decode cX5_init 67 = .ok (.putfield 36, 3) := by decide +kernel
theorem dX5_init_70 : decode cX5_init 70 = .ok (.aload_n 0, 1) := by decide +kernel
theorem dX5_init_71 : decode cX5_init 71 = .ok (.new 40, 3) := by decide +kernel
theorem dX5_init_74 : decode cX5_init 74 = .ok (.dup, 1) := by decide +kernel
theorem dX5_init_75 : decode cX5_init 75 = .ok (.invokespecial 42, 3) := by decide +kernel
theorem dX5_init_78 : decode cX5_init 78 = .ok (.putfield 43, 3) := by decide +kernel
theorem dX5_init_81 : decode cX5_init 81 = .ok (.aload_n 0, 1) := by decide +kernel
theorem dX5_init_82 : decode cX5_init 82 = .ok (.bipush 8, 2) := by decide +kernel
theorem dX5_init_84 : decode cX5_init 84 = .ok (.newarray .int, 2) := by decide +kernel
theorem dX5_init_86 : decode cX5_init 86 = .ok (.putfield 47, 3) := by decide +kernel
theorem dX5_init_89 : decode cX5_init 89 = .ok (.aload_n 0, 1) := by decide +kernel
theorem dX5_init_90 : decode cX5_init 90 = .ok (.bipush 7, 2) := by decide +kernel
theorem dX5_init_92 : decode cX5_init 92 = .ok (.newarray .int, 2) := by decide +kernel
theorem dX5_init_94 : decode cX5_init 94 = .ok (.putfield 51, 3) := by decide +kernel
theorem dX5_init_97 : decode cX5_init 97 = .ok (.return_, 1) := by decide +kernel
theorem dX5_feed_0 : decode cX5_feed 0 = .ok (.iload_n 1, 1) := by decide +kernel
theorem dX5_feed_1 : decode cX5_feed 1 = .ok (.iconst 1, 1) := by decide +kernel
theorem dX5_feed_2 : decode cX5_feed 2 = .ok (.if_icmp .ge 10, 3) := by decide +kernel
theorem dX5_feed_5 : decode cX5_feed 5 = .ok (.aload_n 0, 1) := by decide +kernel
theorem dX5_feed_6 : decode cX5_feed 6 = .ok (.bipush (-4), 2) := by decide +kernel
theorem dX5_feed_8 : decode cX5_feed 8 = .ok (.invokevirtual 54, 3) := by decide +kernel
theorem dX5_feed_11 : decode cX5_feed 11 = .ok (.ireturn, 1) := by decide +kernel
theorem dX5_feed_12 : decode cX5_feed 12 = .ok (.iload_n 1, 1) := by decide +kernel
theorem dX5_feed_13 : decode cX5_feed 13 = .ok (.bipush 8, 2) := by decide +kernel
theorem dX5_feed_15 : decode cX5_feed 15 = .ok (.if_icmp .gt 14, 3) := by decide +kernel
theorem dX5_feed_18 : decode cX5_feed 18 = .ok (.aload_n 0, 1) := by decide +kernel
theorem dX5_feed_19 : decode cX5_feed 19 = .ok (.getfield 36, 3) := by decide +kernel
theorem dX5_feed_22 : decode cX5_feed 22 = .ok (.iload_n 1, 1) := by decide +kernel
theorem dX5_feed_23 : decode cX5_feed 23 = .ok (.invokevirtual 58, 3) := by decide +kernel
theorem dX5_feed_26 : decode cX5_feed 26 = .ok (.ifCond .ne 10, 3) := by decide +kernel
theorem dX5_feed_29 : decode cX5_feed 29 = .ok (.aload_n 0, 1) := by decide +kernel
theorem dX5_feed_30 : decode cX5_feed 30 = .ok (.bipush (-6), 2) := by decide +kernel
theorem dX5_feed_32 : decode cX5_feed 32 = .ok (.invokevirtual 54, 3) := by decide +kernel
theorem dX5_feed_35 : decode cX5_feed 35 = .ok (.ireturn, 1) := by decide +kernel
theorem dX5_feed_36 : decode cX5_feed 36 = .ok (.aload_n 0, 1) := by decide +kernel
theorem dX5_feed_37 : decode cX5_feed 37 = .ok (.getfield 36, 3) := by decide +kernel
theorem dX5_feed_40 : decode cX5_feed 40 = .ok (.iload_n 1, 1) := by decide +kernel
theorem dX5_feed_41 : decode cX5_feed 41 = .ok (.lload_n 2, 1) := by decide +kernel
theorem dX5_feed_42 : decode cX5_feed 42 = .ok (.invokevirtual 62, 3) := by decide +kernel
theorem dX5_feed_45 : decode cX5_feed 45 = .ok (.aload_n 0, 1) := by decide +kernel
theorem dX5_feed_46 : decode cX5_feed 46 = .ok (.getfield 36, 3) := by decide +kernel
theorem dX5_feed_49 : decode cX5_feed 49 = .ok (.getfield 66, 3) := by decide +kernel
theorem dX5_feed_52 : decode cX5_feed 52 = .ok (.ireturn, 1) := by decide +kernel
theorem dX5_line_0 : decode cX5_line 0 = .ok (.aload_n 0, 1) := by decide +kernel
theorem dX5_line_1 : decode cX5_line 1 = .ok (.getfield 24, 3) := by decide +kernel
theorem dX5_line_4 : decode cX5_line 4 = .ok (.aload_n 0, 1) := by decide +kernel
theorem dX5_line_5 : decode cX5_line 5 = .ok (.getfield 20, 3) := by decide +kernel
theorem dX5_line_8 : decode cX5_line 8 = .ok (.invokevirtual 70, 3) := by decide +kernel
theorem dX5_line_11 : decode cX5_line 11 = .ok (.aload_n 0, 1) := by decide +kernel
theorem dX5_line_12 : decode cX5_line 12 = .ok (.getfield 36, 3) := by decide +kernel
theorem dX5_line_15 : decode cX5_line 15 = .ok (.aload_n 0, 1) := by decide +kernel
theorem dX5_line_16 : decode cX5_line 16 = .ok (.getfield 24, 3) := by decide +kernel
theorem dX5_line_19 : decode cX5_line 19 = .ok (.invokevirtual 74, 3) := by decide +kernel
theorem dX5_line_22 : decode cX5_line 22 = .ok (.istore_n 1, 1) := by decide +kernel
theorem dX5_line_23 : decode cX5_line 23 = .ok (.iload_n 1, 1) := by decide +kernel
theorem dX5_line_24 : decode cX5_line 24 = .ok (.ifCond .lt 14, 3) := by decide +kernel
theorem dX5_line_27 : decode cX5_line 27 = .ok (.aload_n 0, 1) := by decide +kernel
theorem dX5_line_28 : decode cX5_line 28 = .ok (.getfield 20, 3) := by decide +kernel
theorem dX5_line_31 : decode cX5_line 31 = .ok (.aload_n 0, 1) := by decide +kernel
theorem dX5_line_32 : decode cX5_line 32 = .ok (.getfield 24, 3) := by decide +kernel
theorem dX5_line_35 : decode cX5_line 35 = .ok (.invokevirtual 70, 3) := by decide +kernel
theorem dX5_line_38 : decode cX5_line 38 = .ok (.iload_n 1, 1) := by decide +kernel
theorem dX5_line_39 : decode cX5_line 39 = .ok (.ireturn, 1) := by decide +kernel
theorem dX5_piece_0 : decode cX5_piece 0 = .ok (.aload_n 0, 1) := by decide +kernel
theorem dX5_piece_1 : decode cX5_piece 1 = .ok (.getfield 20, 3) := by decide +kernel
theorem dX5_piece_4 : decode cX5_piece 4 = .ok (.iload_n 1, 1) := by decide +kernel
theorem dX5_piece_5 : decode cX5_piece 5 = .ok (.invokevirtual 78, 3) := by decide +kernel
theorem dX5_piece_8 : decode cX5_piece 8 = .ok (.ifCond .ne 9, 3) := by decide +kernel
theorem dX5_piece_11 : decode cX5_piece 11 = .ok (.aload_n 0, 1) := by decide +kernel
theorem dX5_piece_12 : decode cX5_piece 12 = .ok (.iconst (-1), 1) := by decide +kernel
theorem dX5_piece_13 : decode cX5_piece 13 = .ok (.invokevirtual 54, 3) := by decide +kernel
theorem dX5_piece_16 : decode cX5_piece 16 = .ok (.ireturn, 1) := by decide +kernel
theorem dX5_piece_17 : decode cX5_piece 17 = .ok (.iload_n 2, 1) := by decide +kernel
theorem dX5_piece_18 : decode cX5_piece 18 = .ok (.lookupswitch 46 #[(0, 26), (1, 36)], 26) := by decide +kernel
theorem dX5_piece_44 : decode cX5_piece 44 = .ok (.aload_n 0, 1) := by decide +kernel
theorem dX5_piece_45 : decode cX5_piece 45 = .ok (.getfield 20, 3) := by decide +kernel
theorem dX5_piece_48 : decode cX5_piece 48 = .ok (.getfield 81, 3) := by decide +kernel
theorem dX5_piece_51 : decode cX5_piece 51 = .ok (.iload_n 1, 1) := by decide +kernel
theorem dX5_piece_52 : decode cX5_piece 52 = .ok (.iaload, 1) := by decide +kernel
theorem dX5_piece_53 : decode cX5_piece 53 = .ok (.ireturn, 1) := by decide +kernel
theorem dX5_piece_54 : decode cX5_piece 54 = .ok (.aload_n 0, 1) := by decide +kernel
theorem dX5_piece_55 : decode cX5_piece 55 = .ok (.getfield 20, 3) := by decide +kernel
theorem dX5_piece_58 : decode cX5_piece 58 = .ok (.getfield 84, 3) := by decide +kernel
theorem dX5_piece_61 : decode cX5_piece 61 = .ok (.iload_n 1, 1) := by decide +kernel
theorem dX5_piece_62 : decode cX5_piece 62 = .ok (.iaload, 1) := by decide +kernel
theorem dX5_piece_63 : decode cX5_piece 63 = .ok (.ireturn, 1) := by decide +kernel
theorem dX5_piece_64 : decode cX5_piece 64 = .ok (.aload_n 0, 1) := by decide +kernel
theorem dX5_piece_65 : decode cX5_piece 65 = .ok (.bipush (-2), 2) := by decide +kernel
theorem dX5_piece_67 : decode cX5_piece 67 = .ok (.invokevirtual 54, 3) := by decide +kernel
theorem dX5_piece_70 : decode cX5_piece 70 = .ok (.ireturn, 1) := by decide +kernel
theorem dX5_train_0 : decode cX5_train 0 = .ok (.aload_n 0, 1) := by decide +kernel
theorem dX5_train_1 : decode cX5_train 1 = .ok (.getfield 20, 3) := by decide +kernel
theorem dX5_train_4 : decode cX5_train 4 = .ok (.iload_n 1, 1) := by decide +kernel
theorem dX5_train_5 : decode cX5_train 5 = .ok (.invokevirtual 87, 3) := by decide +kernel
theorem dX5_train_8 : decode cX5_train 8 = .ok (.ifCond .ne 9, 3) := by decide +kernel
theorem dX5_train_11 : decode cX5_train 11 = .ok (.aload_n 0, 1) := by decide +kernel
theorem dX5_train_12 : decode cX5_train 12 = .ok (.iconst (-1), 1) := by decide +kernel
theorem dX5_train_13 : decode cX5_train 13 = .ok (.invokevirtual 54, 3) := by decide +kernel
theorem dX5_train_16 : decode cX5_train 16 = .ok (.ireturn, 1) := by decide +kernel
theorem dX5_train_17 : decode cX5_train 17 = .ok (.iload_n 2, 1) := by decide +kernel
theorem dX5_train_18 : decode cX5_train 18 = .ok (.lookupswitch 46 #[(0, 26), (1, 36)], 26) := by decide +kernel
theorem dX5_train_44 : decode cX5_train 44 = .ok (.aload_n 0, 1) := by decide +kernel
theorem dX5_train_45 : decode cX5_train 45 = .ok (.getfield 20, 3) := by decide +kernel
theorem dX5_train_48 : decode cX5_train 48 = .ok (.getfield 90, 3) := by decide +kernel
theorem dX5_train_51 : decode cX5_train 51 = .ok (.iload_n 1, 1) := by decide +kernel
theorem dX5_train_52 : decode cX5_train 52 = .ok (.iaload, 1) := by decide +kernel
theorem dX5_train_53 : decode cX5_train 53 = .ok (.ireturn, 1) := by decide +kernel
theorem dX5_train_54 : decode cX5_train 54 = .ok (.aload_n 0, 1) := by decide +kernel
theorem dX5_train_55 : decode cX5_train 55 = .ok (.getfield 20, 3) := by decide +kernel
theorem dX5_train_58 : decode cX5_train 58 = .ok (.getfield 93, 3) := by decide +kernel
theorem dX5_train_61 : decode cX5_train 61 = .ok (.iload_n 1, 1) := by decide +kernel
theorem dX5_train_62 : decode cX5_train 62 = .ok (.iaload, 1) := by decide +kernel
theorem dX5_train_63 : decode cX5_train 63 = .ok (.ireturn, 1) := by decide +kernel
theorem dX5_train_64 : decode cX5_train 64 = .ok (.aload_n 0, 1) := by decide +kernel
theorem dX5_train_65 : decode cX5_train 65 = .ok (.bipush (-2), 2) := by decide +kernel
theorem dX5_train_67 : decode cX5_train 67 = .ok (.invokevirtual 54, 3) := by decide +kernel
theorem dX5_train_70 : decode cX5_train 70 = .ok (.ireturn, 1) := by decide +kernel
theorem dX5_set_0 : decode cX5_set 0 = .ok (.iload_n 1, 1) := by decide +kernel
theorem dX5_set_1 : decode cX5_set 1 = .ok (.ifCond .lt 9, 3) := by decide +kernel
theorem dX5_set_4 : decode cX5_set 4 = .ok (.iload_n 1, 1) := by decide +kernel
theorem dX5_set_5 : decode cX5_set 5 = .ok (.bipush 9, 2) := by decide +kernel
theorem dX5_set_7 : decode cX5_set 7 = .ok (.if_icmp .lt 10, 3) := by decide +kernel
theorem dX5_set_10 : decode cX5_set 10 = .ok (.aload_n 0, 1) := by decide +kernel
theorem dX5_set_11 : decode cX5_set 11 = .ok (.bipush (-2), 2) := by decide +kernel
theorem dX5_set_13 : decode cX5_set 13 = .ok (.invokevirtual 54, 3) := by decide +kernel
theorem dX5_set_16 : decode cX5_set 16 = .ok (.ireturn, 1) := by decide +kernel
theorem dX5_set_17 : decode cX5_set 17 = .ok (.iload_n 2, 1) := by decide +kernel
theorem dX5_set_18 : decode cX5_set 18 = .ok (.getstatic 96, 3) := by decide +kernel
theorem dX5_set_21 : decode cX5_set 21 = .ok (.iload_n 1, 1) := by decide +kernel
theorem dX5_set_22 : decode cX5_set 22 = .ok (.iaload, 1) := by decide +kernel
theorem dX5_set_23 : decode cX5_set 23 = .ok (.if_icmp .ge 10, 3) := by decide +kernel
theorem dX5_set_26 : decode cX5_set 26 = .ok (.aload_n 0, 1) := by decide +kernel
theorem dX5_set_27 : decode cX5_set 27 = .ok (.bipush (-4), 2) := by decide +kernel
theorem dX5_set_29 : decode cX5_set 29 = .ok (.invokevirtual 54, 3) := by decide +kernel
theorem dX5_set_32 : decode cX5_set 32 = .ok (.ireturn, 1) := by decide +kernel
theorem dX5_set_33 : decode cX5_set 33 = .ok (.iload_n 2, 1) := by decide +kernel
theorem dX5_set_34 : decode cX5_set 34 = .ok (.getstatic 99, 3) := by decide +kernel
theorem dX5_set_37 : decode cX5_set 37 = .ok (.iload_n 1, 1) := by decide +kernel
theorem dX5_set_38 : decode cX5_set 38 = .ok (.iaload, 1) := by decide +kernel
theorem dX5_set_39 : decode cX5_set 39 = .ok (.if_icmp .le 10, 3) := by decide +kernel
theorem dX5_set_42 : decode cX5_set 42 = .ok (.aload_n 0, 1) := by decide +kernel
theorem dX5_set_43 : decode cX5_set 43 = .ok (.bipush (-6), 2) := by decide +kernel
theorem dX5_set_45 : decode cX5_set 45 = .ok (.invokevirtual 54, 3) := by decide +kernel
theorem dX5_set_48 : decode cX5_set 48 = .ok (.ireturn, 1) := by decide +kernel
theorem dX5_set_49 : decode cX5_set 49 = .ok (.aload_n 0, 1) := by decide +kernel
theorem dX5_set_50 : decode cX5_set 50 = .ok (.getfield 20, 3) := by decide +kernel
theorem dX5_set_53 : decode cX5_set 53 = .ok (.getfield 102, 3) := by decide +kernel
theorem dX5_set_56 : decode cX5_set 56 = .ok (.iload_n 1, 1) := by decide +kernel
theorem dX5_set_57 : decode cX5_set 57 = .ok (.iaload, 1) := by decide +kernel
theorem dX5_set_58 : decode cX5_set 58 = .ok (.istore_n 3, 1) := by decide +kernel
theorem dX5_set_59 : decode cX5_set 59 = .ok (.aload_n 0, 1) := by decide +kernel
theorem dX5_set_60 : decode cX5_set 60 = .ok (.getfield 20, 3) := by decide +kernel
theorem dX5_set_63 : decode cX5_set 63 = .ok (.getfield 102, 3) := by decide +kernel
theorem dX5_set_66 : decode cX5_set 66 = .ok (.iload_n 1, 1) := by decide +kernel
theorem dX5_set_67 : decode cX5_set 67 = .ok (.iload_n 2, 1) := by decide +kernel
theorem dX5_set_68 : decode cX5_set 68 = .ok (.iastore, 1) := by decide +kernel
theorem dX5_set_69 : decode cX5_set 69 = .ok (.iload_n 3, 1) := by decide +kernel
theorem dX5_set_70 : decode cX5_set 70 = .ok (.ireturn, 1) := by decide +kernel
theorem dX5_makeDouble_0 : decode cX5_makeDouble 0 = .ok (.aload_n 0, 1) := by decide +kernel
theorem dX5_makeDouble_1 : decode cX5_makeDouble 1 = .ok (.getfield 20, 3) := by decide +kernel
theorem dX5_makeDouble_4 : decode cX5_makeDouble 4 = .ok (.iload_n 1, 1) := by decide +kernel
theorem dX5_makeDouble_5 : decode cX5_makeDouble 5 = .ok (.invokevirtual 78, 3) := by decide +kernel
theorem dX5_makeDouble_8 : decode cX5_makeDouble 8 = .ok (.ifCond .ne 9, 3) := by decide +kernel
theorem dX5_makeDouble_11 : decode cX5_makeDouble 11 = .ok (.aload_n 0, 1) := by decide +kernel
theorem dX5_makeDouble_12 : decode cX5_makeDouble 12 = .ok (.iconst (-1), 1) := by decide +kernel
theorem dX5_makeDouble_13 : decode cX5_makeDouble 13 = .ok (.invokevirtual 54, 3) := by decide +kernel
theorem dX5_makeDouble_16 : decode cX5_makeDouble 16 = .ok (.ireturn, 1) := by decide +kernel
theorem dX5_makeDouble_17 : decode cX5_makeDouble 17 = .ok (.iload_n 2, 1) := by decide +kernel
theorem dX5_makeDouble_18 : decode cX5_makeDouble 18 = .ok (.ifCond .eq 7, 3) := by decide +kernel
theorem dX5_makeDouble_21 : decode cX5_makeDouble 21 = .ok (.iconst 1, 1) := by decide +kernel
theorem dX5_makeDouble_22 : decode cX5_makeDouble 22 = .ok (.goto 4, 3) := by decide +kernel
theorem dX5_makeDouble_25 : decode cX5_makeDouble 25 = .ok (.iconst 0, 1) := by decide +kernel
theorem dX5_makeDouble_26 : decode cX5_makeDouble 26 = .ok (.istore_n 3, 1) := by decide +kernel
theorem dX5_makeDouble_27 : decode cX5_makeDouble 27 = .ok (.aload_n 0, 1) := by decide +kernel
theorem dX5_makeDouble_28 : decode cX5_makeDouble 28 = .ok (.getfield 20, 3) := by decide +kernel
theorem dX5_makeDouble_31 : decode cX5_makeDouble 31 = .ok (.getfield 84, 3) := by decide +kernel
theorem dX5_makeDouble_34 : decode cX5_makeDouble 34 = .ok (.iload_n 1, 1) := by decide +kernel
theorem dX5_makeDouble_35 : decode cX5_makeDouble 35 = .ok (.iaload, 1) := by decide +kernel
theorem dX5_makeDouble_36 : decode cX5_makeDouble 36 = .ok (.iload_n 3, 1) := by decide +kernel
theorem dX5_makeDouble_37 : decode cX5_makeDouble 37 = .ok (.if_icmp .ne 5, 3) := by decide +kernel
theorem dX5_makeDouble_40 : decode cX5_makeDouble 40 = .ok (.iconst 0, 1) := by decide +kernel
theorem dX5_makeDouble_41 : decode cX5_makeDouble 41 = .ok (.ireturn, 1) := by decide +kernel
theorem dX5_makeDouble_42 : decode cX5_makeDouble 42 = .ok (.aload_n 0, 1) := by decide +kernel
theorem dX5_makeDouble_43 : decode cX5_makeDouble 43 = .ok (.getfield 20, 3) := by decide +kernel
theorem dX5_makeDouble_46 : decode cX5_makeDouble 46 = .ok (.getfield 84, 3) := by decide +kernel
theorem dX5_makeDouble_49 : decode cX5_makeDouble 49 = .ok (.iload_n 1, 1) := by decide +kernel
theorem dX5_makeDouble_50 : decode cX5_makeDouble 50 = .ok (.iload_n 3, 1) := by decide +kernel
theorem dX5_makeDouble_51 : decode cX5_makeDouble 51 = .ok (.iastore, 1) := by decide +kernel
theorem dX5_makeDouble_52 : decode cX5_makeDouble 52 = .ok (.iconst 1, 1) := by decide +kernel
theorem dX5_makeDouble_53 : decode cX5_makeDouble 53 = .ok (.ireturn, 1) := by decide +kernel
theorem dX5_order_0 : decode cX5_order 0 = .ok (.iload_n 1, 1) := by decide +kernel
theorem dX5_order_1 : decode cX5_order 1 = .ok (.ifCond .ge 10, 3) := by decide +kernel
theorem dX5_order_4 : decode cX5_order 4 = .ok (.aload_n 0, 1) := by decide +kernel
theorem dX5_order_5 : decode cX5_order 5 = .ok (.bipush (-4), 2) := by decide +kernel
theorem dX5_order_7 : decode cX5_order 7 = .ok (.invokevirtual 54, 3) := by decide +kernel
theorem dX5_order_10 : decode cX5_order 10 = .ok (.ireturn, 1) := by decide +kernel
theorem dX5_order_11 : decode cX5_order 11 = .ok (.iload_n 1, 1) := by decide +kernel
theorem dX5_order_12 : decode cX5_order 12 = .ok (.bipush 8, 2) := by decide +kernel
theorem dX5_order_14 : decode cX5_order 14 = .ok (.if_icmp .le 10, 3) := by decide +kernel
theorem dX5_order_17 : decode cX5_order 17 = .ok (.aload_n 0, 1) := by decide +kernel
theorem dX5_order_18 : decode cX5_order 18 = .ok (.bipush (-6), 2) := by decide +kernel
theorem dX5_order_20 : decode cX5_order 20 = .ok (.invokevirtual 54, 3) := by decide +kernel
theorem dX5_order_23 : decode cX5_order 23 = .ok (.ireturn, 1) := by decide +kernel
theorem dX5_order_24 : decode cX5_order 24 = .ok (.aload_n 0, 1) := by decide +kernel
theorem dX5_order_25 : decode cX5_order 25 = .ok (.getfield 20, 3) := by decide +kernel
theorem dX5_order_28 : decode cX5_order 28 = .ok (.iload_n 1, 1) := by decide +kernel
theorem dX5_order_29 : decode cX5_order 29 = .ok (.iload_n 2, 1) := by decide +kernel
theorem dX5_order_30 : decode cX5_order 30 = .ok (.invokevirtual 105, 3) := by decide +kernel
theorem dX5_order_33 : decode cX5_order 33 = .ok (.ifCond .ne 9, 3) := by decide +kernel
theorem dX5_order_36 : decode cX5_order 36 = .ok (.aload_n 0, 1) := by decide +kernel
theorem dX5_order_37 : decode cX5_order 37 = .ok (.iconst (-1), 1) := by decide +kernel
theorem dX5_order_38 : decode cX5_order 38 = .ok (.invokevirtual 54, 3) := by decide +kernel
theorem dX5_order_41 : decode cX5_order 41 = .ok (.ireturn, 1) := by decide +kernel
theorem dX5_order_42 : decode cX5_order 42 = .ok (.aload_n 0, 1) := by decide +kernel
theorem dX5_order_43 : decode cX5_order 43 = .ok (.getfield 20, 3) := by decide +kernel
theorem dX5_order_46 : decode cX5_order 46 = .ok (.getfield 109, 3) := by decide +kernel
theorem dX5_order_49 : decode cX5_order 49 = .ok (.istore_n 3, 1) := by decide +kernel
theorem dX5_order_50 : decode cX5_order 50 = .ok (.aload_n 0, 1) := by decide +kernel
theorem dX5_order_51 : decode cX5_order 51 = .ok (.getfield 20, 3) := by decide +kernel
theorem dX5_order_54 : decode cX5_order 54 = .ok (.iload_n 1, 1) := by decide +kernel
theorem dX5_order_55 : decode cX5_order 55 = .ok (.iload_n 2, 1) := by decide +kernel
theorem dX5_order_56 : decode cX5_order 56 = .ok (.invokevirtual 112, 3) := by decide +kernel
theorem dX5_order_59 : decode cX5_order 59 = .ok (.iload_n 3, 1) := by decide +kernel
theorem dX5_order_60 : decode cX5_order 60 = .ok (.ireturn, 1) := by decide +kernel
theorem dX5_climbs_0 : decode cX5_climbs 0 = .ok (.aload_n 0, 1) := by decide +kernel
theorem dX5_climbs_1 : decode cX5_climbs 1 = .ok (.getfield 20, 3) := by decide +kernel
theorem dX5_climbs_4 : decode cX5_climbs 4 = .ok (.iload_n 1, 1) := by decide +kernel
theorem dX5_climbs_5 : decode cX5_climbs 5 = .ok (.invokevirtual 87, 3) := by decide +kernel
theorem dX5_climbs_8 : decode cX5_climbs 8 = .ok (.ifCond .eq 22, 3) := by decide +kernel
theorem dX5_climbs_11 : decode cX5_climbs 11 = .ok (.aload_n 0, 1) := by decide +kernel
theorem dX5_climbs_12 : decode cX5_climbs 12 = .ok (.getfield 20, 3) := by decide +kernel
theorem dX5_climbs_15 : decode cX5_climbs 15 = .ok (.aload_n 0, 1) := by decide +kernel
theorem dX5_climbs_16 : decode cX5_climbs 16 = .ok (.getfield 20, 3) := by decide +kernel
theorem dX5_climbs_19 : decode cX5_climbs 19 = .ok (.getfield 93, 3) := by decide +kernel
theorem dX5_climbs_22 : decode cX5_climbs 22 = .ok (.iload_n 1, 1) := by decide +kernel
theorem dX5_climbs_23 : decode cX5_climbs 23 = .ok (.iaload, 1) := by decide +kernel
theorem dX5_climbs_24 : decode cX5_climbs 24 = .ok (.invokevirtual 116, 3) := by decide +kernel
theorem dX5_climbs_27 : decode cX5_climbs 27 = .ok (.goto 8, 3) := by decide +kernel
theorem dX5_climbs_30 : decode cX5_climbs 30 = .ok (.aload_n 0, 1) := by decide +kernel
theorem dX5_climbs_31 : decode cX5_climbs 31 = .ok (.iconst (-1), 1) := by decide +kernel
theorem dX5_climbs_32 : decode cX5_climbs 32 = .ok (.invokevirtual 54, 3) := by decide +kernel
theorem dX5_climbs_35 : decode cX5_climbs 35 = .ok (.ireturn, 1) := by decide +kernel
theorem dX5_takes_0 : decode cX5_takes 0 = .ok (.aload_n 0, 1) := by decide +kernel
theorem dX5_takes_1 : decode cX5_takes 1 = .ok (.getfield 20, 3) := by decide +kernel
theorem dX5_takes_4 : decode cX5_takes 4 = .ok (.iload_n 1, 1) := by decide +kernel
theorem dX5_takes_5 : decode cX5_takes 5 = .ok (.invokevirtual 87, 3) := by decide +kernel
theorem dX5_takes_8 : decode cX5_takes 8 = .ok (.ifCond .ne 9, 3) := by decide +kernel
theorem dX5_takes_11 : decode cX5_takes 11 = .ok (.aload_n 0, 1) := by decide +kernel
theorem dX5_takes_12 : decode cX5_takes 12 = .ok (.iconst (-1), 1) := by decide +kernel
theorem dX5_takes_13 : decode cX5_takes 13 = .ok (.invokevirtual 54, 3) := by decide +kernel
theorem dX5_takes_16 : decode cX5_takes 16 = .ok (.ireturn, 1) := by decide +kernel
theorem dX5_takes_17 : decode cX5_takes 17 = .ok (.aload_n 0, 1) := by decide +kernel
theorem dX5_takes_18 : decode cX5_takes 18 = .ok (.getfield 20, 3) := by decide +kernel
theorem dX5_takes_21 : decode cX5_takes 21 = .ok (.aload_n 0, 1) := by decide +kernel
theorem dX5_takes_22 : decode cX5_takes 22 = .ok (.getfield 20, 3) := by decide +kernel
theorem dX5_takes_25 : decode cX5_takes 25 = .ok (.aload_n 0, 1) := by decide +kernel
theorem dX5_takes_26 : decode cX5_takes 26 = .ok (.getfield 20, 3) := by decide +kernel
theorem dX5_takes_29 : decode cX5_takes 29 = .ok (.getfield 93, 3) := by decide +kernel
theorem dX5_takes_32 : decode cX5_takes 32 = .ok (.iload_n 1, 1) := by decide +kernel
theorem dX5_takes_33 : decode cX5_takes 33 = .ok (.iaload, 1) := by decide +kernel
theorem dX5_takes_34 : decode cX5_takes 34 = .ok (.invokevirtual 116, 3) := by decide +kernel
theorem dX5_takes_37 : decode cX5_takes 37 = .ok (.invokevirtual 119, 3) := by decide +kernel
theorem dX5_takes_40 : decode cX5_takes 40 = .ok (.ireturn, 1) := by decide +kernel
theorem dX5_base_0 : decode cX5_base 0 = .ok (.aload_n 0, 1) := by decide +kernel
theorem dX5_base_1 : decode cX5_base 1 = .ok (.getfield 20, 3) := by decide +kernel
theorem dX5_base_4 : decode cX5_base 4 = .ok (.invokevirtual 122, 3) := by decide +kernel
theorem dX5_base_7 : decode cX5_base 7 = .ok (.ireturn, 1) := by decide +kernel
theorem dX5_waited_0 : decode cX5_waited 0 = .ok (.aload_n 0, 1) := by decide +kernel
theorem dX5_waited_1 : decode cX5_waited 1 = .ok (.getfield 20, 3) := by decide +kernel
theorem dX5_waited_4 : decode cX5_waited 4 = .ok (.iload_n 1, 1) := by decide +kernel
theorem dX5_waited_5 : decode cX5_waited 5 = .ok (.invokevirtual 87, 3) := by decide +kernel
theorem dX5_waited_8 : decode cX5_waited 8 = .ok (.ifCond .ne 9, 3) := by decide +kernel
theorem dX5_waited_11 : decode cX5_waited 11 = .ok (.aload_n 0, 1) := by decide +kernel
theorem dX5_waited_12 : decode cX5_waited 12 = .ok (.iconst (-1), 1) := by decide +kernel
theorem dX5_waited_13 : decode cX5_waited 13 = .ok (.invokevirtual 54, 3) := by decide +kernel
theorem dX5_waited_16 : decode cX5_waited 16 = .ok (.ireturn, 1) := by decide +kernel
theorem dX5_waited_17 : decode cX5_waited 17 = .ok (.aload_n 0, 1) := by decide +kernel
theorem dX5_waited_18 : decode cX5_waited 18 = .ok (.getfield 10, 3) := by decide +kernel
theorem dX5_waited_21 : decode cX5_waited 21 = .ok (.invokevirtual 126, 3) := by decide +kernel
theorem dX5_waited_24 : decode cX5_waited 24 = .ok (.aload_n 0, 1) := by decide +kernel
theorem dX5_waited_25 : decode cX5_waited 25 = .ok (.getfield 10, 3) := by decide +kernel
theorem dX5_waited_28 : decode cX5_waited 28 = .ok (.getfield 129, 3) := by decide +kernel
theorem dX5_waited_31 : decode cX5_waited 31 = .ok (.iload_n 1, 1) := by decide +kernel
theorem dX5_waited_32 : decode cX5_waited 32 = .ok (.iaload, 1) := by decide +kernel
theorem dX5_waited_33 : decode cX5_waited 33 = .ok (.istore_n 2, 1) := by decide +kernel
theorem dX5_waited_34 : decode cX5_waited 34 = .ok (.iload_n 2, 1) := by decide +kernel
theorem dX5_waited_35 : decode cX5_waited 35 = .ok (.bipush (-9), 2) := by decide +kernel
theorem dX5_waited_37 : decode cX5_waited 37 = .ok (.if_icmp .ne 8, 3) := by decide +kernel
theorem dX5_waited_40 : decode cX5_waited 40 = .ok (.bipush (-9), 2) := by decide +kernel
theorem dX5_waited_42 : decode cX5_waited 42 = .ok (.goto 14, 3) := by decide +kernel
theorem dX5_waited_45 : decode cX5_waited 45 = .ok (.iload_n 2, 1) := by decide +kernel
theorem dX5_waited_46 : decode cX5_waited 46 = .ok (.aload_n 0, 1) := by decide +kernel
theorem dX5_waited_47 : decode cX5_waited 47 = .ok (.getfield 20, 3) := by decide +kernel
theorem dX5_waited_50 : decode cX5_waited 50 = .ok (.getfield 90, 3) := by decide +kernel
theorem dX5_waited_53 : decode cX5_waited 53 = .ok (.iload_n 1, 1) := by decide +kernel
theorem dX5_waited_54 : decode cX5_waited 54 = .ok (.iaload, 1) := by decide +kernel
theorem dX5_waited_55 : decode cX5_waited 55 = .ok (.isub, 1) := by decide +kernel
theorem dX5_waited_56 : decode cX5_waited 56 = .ok (.ireturn, 1) := by decide +kernel
theorem dX5_began_0 : decode cX5_began 0 = .ok (.aload_n 0, 1) := by decide +kernel
theorem dX5_began_1 : decode cX5_began 1 = .ok (.getfield 20, 3) := by decide +kernel
theorem dX5_began_4 : decode cX5_began 4 = .ok (.iload_n 1, 1) := by decide +kernel
theorem dX5_began_5 : decode cX5_began 5 = .ok (.invokevirtual 87, 3) := by decide +kernel
theorem dX5_began_8 : decode cX5_began 8 = .ok (.ifCond .ne 9, 3) := by decide +kernel
theorem dX5_began_11 : decode cX5_began 11 = .ok (.aload_n 0, 1) := by decide +kernel
theorem dX5_began_12 : decode cX5_began 12 = .ok (.iconst (-1), 1) := by decide +kernel
theorem dX5_began_13 : decode cX5_began 13 = .ok (.invokevirtual 54, 3) := by decide +kernel
theorem dX5_began_16 : decode cX5_began 16 = .ok (.ireturn, 1) := by decide +kernel
theorem dX5_began_17 : decode cX5_began 17 = .ok (.aload_n 0, 1) := by decide +kernel
theorem dX5_began_18 : decode cX5_began 18 = .ok (.getfield 10, 3) := by decide +kernel
theorem dX5_began_21 : decode cX5_began 21 = .ok (.invokevirtual 126, 3) := by decide +kernel
theorem dX5_began_24 : decode cX5_began 24 = .ok (.aload_n 0, 1) := by decide +kernel
theorem dX5_began_25 : decode cX5_began 25 = .ok (.getfield 10, 3) := by decide +kernel
theorem dX5_began_28 : decode cX5_began 28 = .ok (.getfield 129, 3) := by decide +kernel
theorem dX5_began_31 : decode cX5_began 31 = .ok (.iload_n 1, 1) := by decide +kernel
theorem dX5_began_32 : decode cX5_began 32 = .ok (.iaload, 1) := by decide +kernel
theorem dX5_began_33 : decode cX5_began 33 = .ok (.ireturn, 1) := by decide +kernel
theorem dX5_allWaited_0 : decode cX5_allWaited 0 = .ok (.aload_n 0, 1) := by decide +kernel
theorem dX5_allWaited_1 : decode cX5_allWaited 1 = .ok (.getfield 10, 3) := by decide +kernel
theorem dX5_allWaited_4 : decode cX5_allWaited 4 = .ok (.invokevirtual 126, 3) := by decide +kernel
theorem dX5_allWaited_7 : decode cX5_allWaited 7 = .ok (.aload_n 0, 1) := by decide +kernel
theorem dX5_allWaited_8 : decode cX5_allWaited 8 = .ok (.getfield 10, 3) := by decide +kernel
theorem dX5_allWaited_11 : decode cX5_allWaited 11 = .ok (.invokevirtual 132, 3) := by decide +kernel
theorem dX5_allWaited_14 : decode cX5_allWaited 14 = .ok (.ireturn, 1) := by decide +kernel
theorem dX5_downs_0 : decode cX5_downs 0 = .ok (.aload_n 0, 1) := by decide +kernel
theorem dX5_downs_1 : decode cX5_downs 1 = .ok (.getfield 10, 3) := by decide +kernel
theorem dX5_downs_4 : decode cX5_downs 4 = .ok (.invokevirtual 126, 3) := by decide +kernel
theorem dX5_downs_7 : decode cX5_downs 7 = .ok (.aload_n 0, 1) := by decide +kernel
theorem dX5_downs_8 : decode cX5_downs 8 = .ok (.getfield 10, 3) := by decide +kernel
theorem dX5_downs_11 : decode cX5_downs 11 = .ok (.getfield 135, 3) := by decide +kernel
theorem dX5_downs_14 : decode cX5_downs 14 = .ok (.ireturn, 1) := by decide +kernel
theorem dX5_best_0 : decode cX5_best 0 = .ok (.iload_n 1, 1) := by decide +kernel
theorem dX5_best_1 : decode cX5_best 1 = .ok (.iconst (-1), 1) := by decide +kernel
theorem dX5_best_2 : decode cX5_best 2 = .ok (.if_icmp .ge 10, 3) := by decide +kernel
theorem dX5_best_5 : decode cX5_best 5 = .ok (.aload_n 0, 1) := by decide +kernel
theorem dX5_best_6 : decode cX5_best 6 = .ok (.bipush (-4), 2) := by decide +kernel
theorem dX5_best_8 : decode cX5_best 8 = .ok (.invokevirtual 54, 3) := by decide +kernel
theorem dX5_best_11 : decode cX5_best 11 = .ok (.ireturn, 1) := by decide +kernel
theorem dX5_best_12 : decode cX5_best 12 = .ok (.aload_n 0, 1) := by decide +kernel
theorem dX5_best_13 : decode cX5_best 13 = .ok (.getfield 20, 3) := by decide +kernel
theorem dX5_best_16 : decode cX5_best 16 = .ok (.getfield 138, 3) := by decide +kernel
theorem dX5_best_19 : decode cX5_best 19 = .ok (.iconst 5, 1) := by decide +kernel
theorem dX5_best_20 : decode cX5_best 20 = .ok (.if_icmp .le 10, 3) := by decide +kernel
theorem dX5_best_23 : decode cX5_best 23 = .ok (.aload_n 0, 1) := by decide +kernel
theorem dX5_best_24 : decode cX5_best 24 = .ok (.bipush (-6), 2) := by decide +kernel
theorem dX5_best_26 : decode cX5_best 26 = .ok (.invokevirtual 54, 3) := by decide +kernel
theorem dX5_best_29 : decode cX5_best 29 = .ok (.ireturn, 1) := by decide +kernel
theorem dX5_best_30 : decode cX5_best 30 = .ok (.iload_n 1, 1) := by decide +kernel
theorem dX5_best_31 : decode cX5_best 31 = .ok (.aload_n 0, 1) := by decide +kernel
theorem dX5_best_32 : decode cX5_best 32 = .ok (.getfield 20, 3) := by decide +kernel
theorem dX5_best_35 : decode cX5_best 35 = .ok (.getfield 138, 3) := by decide +kernel
theorem dX5_best_38 : decode cX5_best 38 = .ok (.if_icmp .lt 6, 3) := by decide +kernel
theorem dX5_best_41 : decode cX5_best 41 = .ok (.bipush (-9), 2) := by decide +kernel
theorem dX5_best_43 : decode cX5_best 43 = .ok (.ireturn, 1) := by decide +kernel
theorem dX5_best_44 : decode cX5_best 44 = .ok (.aload_n 0, 1) := by decide +kernel
theorem dX5_best_45 : decode cX5_best 45 = .ok (.invokevirtual 141, 3) := by decide +kernel
theorem dX5_best_48 : decode cX5_best 48 = .ok (.istore_n 2, 1) := by decide +kernel
theorem dX5_best_49 : decode cX5_best 49 = .ok (.iload_n 1, 1) := by decide +kernel
theorem dX5_best_50 : decode cX5_best 50 = .ok (.ifCond .ge 7, 3) := by decide +kernel
theorem dX5_best_53 : decode cX5_best 53 = .ok (.iload_n 2, 1) := by decide +kernel
theorem dX5_best_54 : decode cX5_best 54 = .ok (.goto 9, 3) := by decide +kernel
theorem dX5_best_57 : decode cX5_best 57 = .ok (.aload_n 0, 1) := by decide +kernel
theorem dX5_best_58 : decode cX5_best 58 = .ok (.getfield 47, 3) := by decide +kernel
theorem dX5_best_61 : decode cX5_best 61 = .ok (.iload_n 1, 1) := by decide +kernel
theorem dX5_best_62 : decode cX5_best 62 = .ok (.iaload, 1) := by decide +kernel
theorem dX5_best_63 : decode cX5_best 63 = .ok (.ireturn, 1) := by decide +kernel
theorem dX5_fewest_0 : decode cX5_fewest 0 = .ok (.iload_n 1, 1) := by decide +kernel
theorem dX5_fewest_1 : decode cX5_fewest 1 = .ok (.ifCond .ge 10, 3) := by decide +kernel
theorem dX5_fewest_4 : decode cX5_fewest 4 = .ok (.aload_n 0, 1) := by decide +kernel
theorem dX5_fewest_5 : decode cX5_fewest 5 = .ok (.bipush (-4), 2) := by decide +kernel
theorem dX5_fewest_7 : decode cX5_fewest 7 = .ok (.invokevirtual 54, 3) := by decide +kernel
theorem dX5_fewest_10 : decode cX5_fewest 10 = .ok (.ireturn, 1) := by decide +kernel
theorem dX5_fewest_11 : decode cX5_fewest 11 = .ok (.aload_n 0, 1) := by decide +kernel
theorem dX5_fewest_12 : decode cX5_fewest 12 = .ok (.getfield 24, 3) := by decide +kernel
theorem dX5_fewest_15 : decode cX5_fewest 15 = .ok (.aload_n 0, 1) := by decide +kernel
theorem dX5_fewest_16 : decode cX5_fewest 16 = .ok (.getfield 20, 3) := by decide +kernel
theorem dX5_fewest_19 : decode cX5_fewest 19 = .ok (.invokevirtual 70, 3) := by decide +kernel
theorem dX5_fewest_22 : decode cX5_fewest 22 = .ok (.iconst 0, 1) := by decide +kernel
theorem dX5_fewest_23 : decode cX5_fewest 23 = .ok (.istore_n 2, 1) := by decide +kernel
theorem dX5_fewest_24 : decode cX5_fewest 24 = .ok (.iload_n 2, 1) := by decide +kernel
theorem dX5_fewest_25 : decode cX5_fewest 25 = .ok (.iconst 4, 1) := by decide +kernel
theorem dX5_fewest_26 : decode cX5_fewest 26 = .ok (.if_icmp .gt 27, 3) := by decide +kernel
theorem dX5_fewest_29 : decode cX5_fewest 29 = .ok (.aload_n 0, 1) := by decide +kernel
theorem dX5_fewest_30 : decode cX5_fewest 30 = .ok (.getfield 24, 3) := by decide +kernel
theorem dX5_fewest_33 : decode cX5_fewest 33 = .ok (.iload_n 2, 1) := by decide +kernel
theorem dX5_fewest_34 : decode cX5_fewest 34 = .ok (.putfield 144, 3) := by decide +kernel
theorem dX5_fewest_37 : decode cX5_fewest 37 = .ok (.aload_n 0, 1) := by decide +kernel
theorem dX5_fewest_38 : decode cX5_fewest 38 = .ok (.invokevirtual 147, 3) := by decide +kernel
theorem dX5_fewest_41 : decode cX5_fewest 41 = .ok (.iload_n 1, 1) := by decide +kernel
theorem dX5_fewest_42 : decode cX5_fewest 42 = .ok (.if_icmp .gt 5, 3) := by decide +kernel
theorem dX5_fewest_45 : decode cX5_fewest 45 = .ok (.iload_n 2, 1) := by decide +kernel
theorem dX5_fewest_46 : decode cX5_fewest 46 = .ok (.ireturn, 1) := by decide +kernel
theorem dX5_fewest_47 : decode cX5_fewest 47 = .ok (.iinc 2 1, 3) := by decide +kernel
theorem dX5_fewest_50 : decode cX5_fewest 50 = .ok (.goto (-26), 3) := by decide +kernel
theorem dX5_fewest_53 : decode cX5_fewest 53 = .ok (.bipush (-9), 2) := by decide +kernel
theorem dX5_fewest_55 : decode cX5_fewest 55 = .ok (.ireturn, 1) := by decide +kernel
theorem dX5_which_0 : decode cX5_which 0 = .ok (.aload_n 0, 1) := by decide +kernel
theorem dX5_which_1 : decode cX5_which 1 = .ok (.getfield 24, 3) := by decide +kernel
theorem dX5_which_4 : decode cX5_which 4 = .ok (.aload_n 0, 1) := by decide +kernel
theorem dX5_which_5 : decode cX5_which 5 = .ok (.getfield 20, 3) := by decide +kernel
theorem dX5_which_8 : decode cX5_which 8 = .ok (.invokevirtual 70, 3) := by decide +kernel
theorem dX5_which_11 : decode cX5_which 11 = .ok (.aload_n 0, 1) := by decide +kernel
theorem dX5_which_12 : decode cX5_which 12 = .ok (.invokevirtual 147, 3) := by decide +kernel
theorem dX5_which_15 : decode cX5_which 15 = .ok (.istore_n 1, 1) := by decide +kernel
theorem dX5_which_16 : decode cX5_which 16 = .ok (.bipush (-9), 2) := by decide +kernel
theorem dX5_which_18 : decode cX5_which 18 = .ok (.istore_n 2, 1) := by decide +kernel
theorem dX5_which_19 : decode cX5_which 19 = .ok (.iconst 0, 1) := by decide +kernel
theorem dX5_which_20 : decode cX5_which 20 = .ok (.istore_n 3, 1) := by decide +kernel
theorem dX5_which_21 : decode cX5_which 21 = .ok (.iload_n 3, 1) := by decide +kernel
theorem dX5_which_22 : decode cX5_which 22 = .ok (.aload_n 0, 1) := by decide +kernel
theorem dX5_which_23 : decode cX5_which 23 = .ok (.getfield 20, 3) := by decide +kernel
theorem dX5_which_26 : decode cX5_which 26 = .ok (.getfield 150, 3) := by decide +kernel
theorem dX5_which_29 : decode cX5_which 29 = .ok (.if_icmp .ge 58, 3) := by decide +kernel
theorem dX5_which_32 : decode cX5_which 32 = .ok (.aload_n 0, 1) := by decide +kernel
theorem dX5_which_33 : decode cX5_which 33 = .ok (.getfield 20, 3) := by decide +kernel
theorem dX5_which_36 : decode cX5_which 36 = .ok (.getfield 84, 3) := by decide +kernel
theorem dX5_which_39 : decode cX5_which 39 = .ok (.iload_n 3, 1) := by decide +kernel
theorem dX5_which_40 : decode cX5_which 40 = .ok (.iaload, 1) := by decide +kernel
theorem dX5_which_41 : decode cX5_which 41 = .ok (.ifCond .ne 40, 3) := by decide +kernel
theorem dX5_which_44 : decode cX5_which 44 = .ok (.aload_n 0, 1) := by decide +kernel
theorem dX5_which_45 : decode cX5_which 45 = .ok (.getfield 24, 3) := by decide +kernel
theorem dX5_which_48 : decode cX5_which 48 = .ok (.getfield 84, 3) := by decide +kernel
theorem dX5_which_51 : decode cX5_which 51 = .ok (.iload_n 3, 1) := by decide +kernel
theorem dX5_which_52 : decode cX5_which 52 = .ok (.iconst 1, 1) := by decide +kernel
theorem dX5_which_53 : decode cX5_which 53 = .ok (.iastore, 1) := by decide +kernel
theorem dX5_which_54 : decode cX5_which 54 = .ok (.aload_n 0, 1) := by decide +kernel
theorem dX5_which_55 : decode cX5_which 55 = .ok (.invokevirtual 147, 3) := by decide +kernel
theorem dX5_which_58 : decode cX5_which 58 = .ok (.istore 4, 2) := by decide +kernel
theorem dX5_which_60 : decode cX5_which 60 = .ok (.aload_n 0, 1) := by decide +kernel
theorem dX5_which_61 : decode cX5_which 61 = .ok (.getfield 24, 3) := by decide +kernel
theorem dX5_which_64 : decode cX5_which 64 = .ok (.getfield 84, 3) := by decide +kernel
theorem dX5_which_67 : decode cX5_which 67 = .ok (.iload_n 3, 1) := by decide +kernel
theorem dX5_which_68 : decode cX5_which 68 = .ok (.iconst 0, 1) := by decide +kernel
theorem dX5_which_69 : decode cX5_which 69 = .ok (.iastore, 1) := by decide +kernel
theorem dX5_which_70 : decode cX5_which 70 = .ok (.iload 4, 2) := by decide +kernel
theorem dX5_which_72 : decode cX5_which 72 = .ok (.iload_n 1, 1) := by decide +kernel
theorem dX5_which_73 : decode cX5_which 73 = .ok (.if_icmp .ge 8, 3) := by decide +kernel
theorem dX5_which_76 : decode cX5_which 76 = .ok (.iload 4, 2) := by decide +kernel
theorem dX5_which_78 : decode cX5_which 78 = .ok (.istore_n 1, 1) := by decide +kernel
theorem dX5_which_79 : decode cX5_which 79 = .ok (.iload_n 3, 1) := by decide +kernel
theorem dX5_which_80 : decode cX5_which 80 = .ok (.istore_n 2, 1) := by decide +kernel
theorem dX5_which_81 : decode cX5_which 81 = .ok (.iinc 3 1, 3) := by decide +kernel
theorem dX5_which_84 : decode cX5_which 84 = .ok (.goto (-63), 3) := by decide +kernel
theorem dX5_which_87 : decode cX5_which 87 = .ok (.iload_n 2, 1) := by decide +kernel
theorem dX5_which_88 : decode cX5_which 88 = .ok (.ireturn, 1) := by decide +kernel
theorem dX5_edge_0 : decode cX5_edge 0 = .ok (.iload_n 1, 1) := by decide +kernel
theorem dX5_edge_1 : decode cX5_edge 1 = .ok (.ifCond .lt 8, 3) := by decide +kernel
theorem dX5_edge_4 : decode cX5_edge 4 = .ok (.iload_n 1, 1) := by decide +kernel
theorem dX5_edge_5 : decode cX5_edge 5 = .ok (.iconst 2, 1) := by decide +kernel
theorem dX5_edge_6 : decode cX5_edge 6 = .ok (.if_icmp .le 10, 3) := by decide +kernel
theorem dX5_edge_9 : decode cX5_edge 9 = .ok (.aload_n 0, 1) := by decide +kernel
theorem dX5_edge_10 : decode cX5_edge 10 = .ok (.bipush (-2), 2) := by decide +kernel
theorem dX5_edge_12 : decode cX5_edge 12 = .ok (.invokevirtual 54, 3) := by decide +kernel
theorem dX5_edge_15 : decode cX5_edge 15 = .ok (.ireturn, 1) := by decide +kernel
theorem dX5_edge_16 : decode cX5_edge 16 = .ok (.sipush 999, 3) := by decide +kernel
theorem dX5_edge_19 : decode cX5_edge 19 = .ok (.istore_n 2, 1) := by decide +kernel
theorem dX5_edge_20 : decode cX5_edge 20 = .ok (.iload_n 2, 1) := by decide +kernel
theorem dX5_edge_21 : decode cX5_edge 21 = .ok (.iconst 1, 1) := by decide +kernel
theorem dX5_edge_22 : decode cX5_edge 22 = .ok (.if_icmp .lt 23, 3) := by decide +kernel
theorem dX5_edge_25 : decode cX5_edge 25 = .ok (.aload_n 0, 1) := by decide +kernel
theorem dX5_edge_26 : decode cX5_edge 26 = .ok (.getfield 20, 3) := by decide +kernel
theorem dX5_edge_29 : decode cX5_edge 29 = .ok (.iload_n 2, 1) := by decide +kernel
theorem dX5_edge_30 : decode cX5_edge 30 = .ok (.invokevirtual 116, 3) := by decide +kernel
theorem dX5_edge_33 : decode cX5_edge 33 = .ok (.iload_n 1, 1) := by decide +kernel
theorem dX5_edge_34 : decode cX5_edge 34 = .ok (.if_icmp .ne 5, 3) := by decide +kernel
theorem dX5_edge_37 : decode cX5_edge 37 = .ok (.iload_n 2, 1) := by decide +kernel
theorem dX5_edge_38 : decode cX5_edge 38 = .ok (.ireturn, 1) := by decide +kernel
theorem dX5_edge_39 : decode cX5_edge 39 = .ok (.iinc 2 (-1), 3) := by decide +kernel
theorem dX5_edge_42 : decode cX5_edge 42 = .ok (.goto (-22), 3) := by decide +kernel
theorem dX5_edge_45 : decode cX5_edge 45 = .ok (.bipush (-9), 2) := by decide +kernel
theorem dX5_edge_47 : decode cX5_edge 47 = .ok (.ireturn, 1) := by decide +kernel
theorem dX5_chance_0 : decode cX5_chance 0 = .ok (.iload_n 1, 1) := by decide +kernel
theorem dX5_chance_1 : decode cX5_chance 1 = .ok (.ifCond .ge 10, 3) := by decide +kernel
theorem dX5_chance_4 : decode cX5_chance 4 = .ok (.aload_n 0, 1) := by decide +kernel
theorem dX5_chance_5 : decode cX5_chance 5 = .ok (.bipush (-4), 2) := by decide +kernel
theorem dX5_chance_7 : decode cX5_chance 7 = .ok (.invokevirtual 54, 3) := by decide +kernel
theorem dX5_chance_10 : decode cX5_chance 10 = .ok (.ireturn, 1) := by decide +kernel
theorem dX5_chance_11 : decode cX5_chance 11 = .ok (.iload_n 1, 1) := by decide +kernel
theorem dX5_chance_12 : decode cX5_chance 12 = .ok (.bipush 100, 2) := by decide +kernel
theorem dX5_chance_14 : decode cX5_chance 14 = .ok (.if_icmp .le 10, 3) := by decide +kernel
theorem dX5_chance_17 : decode cX5_chance 17 = .ok (.aload_n 0, 1) := by decide +kernel
theorem dX5_chance_18 : decode cX5_chance 18 = .ok (.bipush (-6), 2) := by decide +kernel
theorem dX5_chance_20 : decode cX5_chance 20 = .ok (.invokevirtual 54, 3) := by decide +kernel
theorem dX5_chance_23 : decode cX5_chance 23 = .ok (.ireturn, 1) := by decide +kernel
theorem dX5_chance_24 : decode cX5_chance 24 = .ok (.aload_n 0, 1) := by decide +kernel
theorem dX5_chance_25 : decode cX5_chance 25 = .ok (.getfield 24, 3) := by decide +kernel
theorem dX5_chance_28 : decode cX5_chance 28 = .ok (.aload_n 0, 1) := by decide +kernel
theorem dX5_chance_29 : decode cX5_chance 29 = .ok (.getfield 20, 3) := by decide +kernel
theorem dX5_chance_32 : decode cX5_chance 32 = .ok (.invokevirtual 70, 3) := by decide +kernel
theorem dX5_chance_35 : decode cX5_chance 35 = .ok (.aload_n 0, 1) := by decide +kernel
theorem dX5_chance_36 : decode cX5_chance 36 = .ok (.getfield 24, 3) := by decide +kernel
theorem dX5_chance_39 : decode cX5_chance 39 = .ok (.getfield 102, 3) := by decide +kernel
theorem dX5_chance_42 : decode cX5_chance 42 = .ok (.bipush 6, 2) := by decide +kernel
theorem dX5_chance_44 : decode cX5_chance 44 = .ok (.iconst 1, 1) := by decide +kernel
theorem dX5_chance_45 : decode cX5_chance 45 = .ok (.iastore, 1) := by decide +kernel
theorem dX5_chance_46 : decode cX5_chance 46 = .ok (.aload_n 0, 1) := by decide +kernel
theorem dX5_chance_47 : decode cX5_chance 47 = .ok (.invokevirtual 147, 3) := by decide +kernel
theorem dX5_chance_50 : decode cX5_chance 50 = .ok (.istore_n 2, 1) := by decide +kernel
theorem dX5_chance_51 : decode cX5_chance 51 = .ok (.aload_n 0, 1) := by decide +kernel
theorem dX5_chance_52 : decode cX5_chance 52 = .ok (.getfield 24, 3) := by decide +kernel
theorem dX5_chance_55 : decode cX5_chance 55 = .ok (.getfield 102, 3) := by decide +kernel
theorem dX5_chance_58 : decode cX5_chance 58 = .ok (.bipush 6, 2) := by decide +kernel
theorem dX5_chance_60 : decode cX5_chance 60 = .ok (.iconst 0, 1) := by decide +kernel
theorem dX5_chance_61 : decode cX5_chance 61 = .ok (.iastore, 1) := by decide +kernel
theorem dX5_chance_62 : decode cX5_chance 62 = .ok (.aload_n 0, 1) := by decide +kernel
theorem dX5_chance_63 : decode cX5_chance 63 = .ok (.invokevirtual 147, 3) := by decide +kernel
theorem dX5_chance_66 : decode cX5_chance 66 = .ok (.istore_n 3, 1) := by decide +kernel
theorem dX5_chance_67 : decode cX5_chance 67 = .ok (.iload_n 1, 1) := by decide +kernel
theorem dX5_chance_68 : decode cX5_chance 68 = .ok (.iload_n 2, 1) := by decide +kernel
theorem dX5_chance_69 : decode cX5_chance 69 = .ok (.imul, 1) := by decide +kernel
theorem dX5_chance_70 : decode cX5_chance 70 = .ok (.bipush 100, 2) := by decide +kernel
theorem dX5_chance_72 : decode cX5_chance 72 = .ok (.iload_n 1, 1) := by decide +kernel
theorem dX5_chance_73 : decode cX5_chance 73 = .ok (.isub, 1) := by decide +kernel
theorem dX5_chance_74 : decode cX5_chance 74 = .ok (.iload_n 3, 1) := by decide +kernel
theorem dX5_chance_75 : decode cX5_chance 75 = .ok (.imul, 1) := by decide +kernel
theorem dX5_chance_76 : decode cX5_chance 76 = .ok (.iadd, 1) := by decide +kernel
theorem dX5_chance_77 : decode cX5_chance 77 = .ok (.ireturn, 1) := by decide +kernel
theorem dX5_heaviest_0 : decode cX5_heaviest 0 = .ok (.aload_n 0, 1) := by decide +kernel
theorem dX5_heaviest_1 : decode cX5_heaviest 1 = .ok (.getfield 10, 3) := by decide +kernel
theorem dX5_heaviest_4 : decode cX5_heaviest 4 = .ok (.invokevirtual 126, 3) := by decide +kernel
theorem dX5_heaviest_7 : decode cX5_heaviest 7 = .ok (.aload_n 0, 1) := by decide +kernel
theorem dX5_heaviest_8 : decode cX5_heaviest 8 = .ok (.getfield 10, 3) := by decide +kernel
theorem dX5_heaviest_11 : decode cX5_heaviest 11 = .ok (.invokevirtual 153, 3) := by decide +kernel
theorem dX5_heaviest_14 : decode cX5_heaviest 14 = .ok (.ireturn, 1) := by decide +kernel
theorem dX5_yard_0 : decode cX5_yard 0 = .ok (.aload_n 0, 1) := by decide +kernel
theorem dX5_yard_1 : decode cX5_yard 1 = .ok (.getfield 20, 3) := by decide +kernel
theorem dX5_yard_4 : decode cX5_yard 4 = .ok (.getfield 138, 3) := by decide +kernel
theorem dX5_yard_7 : decode cX5_yard 7 = .ok (.ifCond .ne 6, 3) := by decide +kernel
theorem dX5_yard_10 : decode cX5_yard 10 = .ok (.bipush (-9), 2) := by decide +kernel
theorem dX5_yard_12 : decode cX5_yard 12 = .ok (.ireturn, 1) := by decide +kernel
theorem dX5_yard_13 : decode cX5_yard 13 = .ok (.aload_n 0, 1) := by decide +kernel
theorem dX5_yard_14 : decode cX5_yard 14 = .ok (.getfield 24, 3) := by decide +kernel
theorem dX5_yard_17 : decode cX5_yard 17 = .ok (.aload_n 0, 1) := by decide +kernel
theorem dX5_yard_18 : decode cX5_yard 18 = .ok (.getfield 20, 3) := by decide +kernel
theorem dX5_yard_21 : decode cX5_yard 21 = .ok (.invokevirtual 70, 3) := by decide +kernel
theorem dX5_yard_24 : decode cX5_yard 24 = .ok (.iconst (-1), 1) := by decide +kernel
theorem dX5_yard_25 : decode cX5_yard 25 = .ok (.istore_n 1, 1) := by decide +kernel
theorem dX5_yard_26 : decode cX5_yard 26 = .ok (.bipush (-9), 2) := by decide +kernel
theorem dX5_yard_28 : decode cX5_yard 28 = .ok (.istore_n 2, 1) := by decide +kernel
theorem dX5_yard_29 : decode cX5_yard 29 = .ok (.bipush 50, 2) := by decide +kernel
theorem dX5_yard_31 : decode cX5_yard 31 = .ok (.istore_n 3, 1) := by decide +kernel
theorem dX5_yard_32 : decode cX5_yard 32 = .ok (.iload_n 3, 1) := by decide +kernel
theorem dX5_yard_33 : decode cX5_yard 33 = .ok (.sipush 950, 3) := by decide +kernel
theorem dX5_yard_36 : decode cX5_yard 36 = .ok (.if_icmp .gt 44, 3) := by decide +kernel
theorem dX5_yard_39 : decode cX5_yard 39 = .ok (.aload_n 0, 1) := by decide +kernel
theorem dX5_yard_40 : decode cX5_yard 40 = .ok (.getfield 24, 3) := by decide +kernel
theorem dX5_yard_43 : decode cX5_yard 43 = .ok (.iload_n 3, 1) := by decide +kernel
theorem dX5_yard_44 : decode cX5_yard 44 = .ok (.invokevirtual 156, 3) := by decide +kernel
theorem dX5_yard_47 : decode cX5_yard 47 = .ok (.aload_n 0, 1) := by decide +kernel
theorem dX5_yard_48 : decode cX5_yard 48 = .ok (.getfield 21, 3) := by decide +kernel
theorem dX5_yard_51 : decode cX5_yard 51 = .ok (.invokevirtual 126, 3) := by decide +kernel
theorem dX5_yard_54 : decode cX5_yard 54 = .ok (.aload_n 0, 1) := by decide +kernel
theorem dX5_yard_55 : decode cX5_yard 55 = .ok (.getfield 21, 3) := by decide +kernel
theorem dX5_yard_58 : decode cX5_yard 58 = .ok (.invokevirtual 153, 3) := by decide +kernel
theorem dX5_yard_61 : decode cX5_yard 61 = .ok (.istore 4, 2) := by decide +kernel
theorem dX5_yard_63 : decode cX5_yard 63 = .ok (.iload 4, 2) := by decide +kernel
theorem dX5_yard_65 : decode cX5_yard 65 = .ok (.iload_n 1, 1) := by decide +kernel
theorem dX5_yard_66 : decode cX5_yard 66 = .ok (.if_icmp .le 8, 3) := by decide +kernel
theorem dX5_yard_69 : decode cX5_yard 69 = .ok (.iload 4, 2) := by decide +kernel
theorem dX5_yard_71 : decode cX5_yard 71 = .ok (.istore_n 1, 1) := by decide +kernel
theorem dX5_yard_72 : decode cX5_yard 72 = .ok (.iload_n 3, 1) := by decide +kernel
theorem dX5_yard_73 : decode cX5_yard 73 = .ok (.istore_n 2, 1) := by decide +kernel
theorem dX5_yard_74 : decode cX5_yard 74 = .ok (.iinc 3 50, 3) := by decide +kernel
theorem dX5_yard_77 : decode cX5_yard 77 = .ok (.goto (-45), 3) := by decide +kernel
theorem dX5_yard_80 : decode cX5_yard 80 = .ok (.iload_n 2, 1) := by decide +kernel
theorem dX5_yard_81 : decode cX5_yard 81 = .ok (.ireturn, 1) := by decide +kernel
theorem dX5_row_0 : decode cX5_row 0 = .ok (.iload_n 1, 1) := by decide +kernel
theorem dX5_row_1 : decode cX5_row 1 = .ok (.ifCond .ge 10, 3) := by decide +kernel
theorem dX5_row_4 : decode cX5_row 4 = .ok (.aload_n 0, 1) := by decide +kernel
theorem dX5_row_5 : decode cX5_row 5 = .ok (.bipush (-4), 2) := by decide +kernel
theorem dX5_row_7 : decode cX5_row 7 = .ok (.invokevirtual 54, 3) := by decide +kernel
theorem dX5_row_10 : decode cX5_row 10 = .ok (.ireturn, 1) := by decide +kernel
theorem dX5_row_11 : decode cX5_row 11 = .ok (.iload_n 1, 1) := by decide +kernel
theorem dX5_row_12 : decode cX5_row 12 = .ok (.bipush 9, 2) := by decide +kernel
theorem dX5_row_14 : decode cX5_row 14 = .ok (.if_icmp .gt 15, 3) := by decide +kernel
theorem dX5_row_17 : decode cX5_row 17 = .ok (.aload_n 0, 1) := by decide +kernel
theorem dX5_row_18 : decode cX5_row 18 = .ok (.getfield 43, 3) := by decide +kernel
theorem dX5_row_21 : decode cX5_row 21 = .ok (.getfield 160, 3) := by decide +kernel
theorem dX5_row_24 : decode cX5_row 24 = .ok (.bipush 16, 2) := by decide +kernel
theorem dX5_row_26 : decode cX5_row 26 = .ok (.if_icmp .lt 10, 3) := by decide +kernel
theorem dX5_row_29 : decode cX5_row 29 = .ok (.aload_n 0, 1) := by decide +kernel
theorem dX5_row_30 : decode cX5_row 30 = .ok (.bipush (-6), 2) := by decide +kernel
theorem dX5_row_32 : decode cX5_row 32 = .ok (.invokevirtual 54, 3) := by decide +kernel
theorem dX5_row_35 : decode cX5_row 35 = .ok (.ireturn, 1) := by decide +kernel
theorem dX5_row_36 : decode cX5_row 36 = .ok (.aload_n 0, 1) := by decide +kernel
theorem dX5_row_37 : decode cX5_row 37 = .ok (.getfield 43, 3) := by decide +kernel
theorem dX5_row_40 : decode cX5_row 40 = .ok (.iload_n 1, 1) := by decide +kernel
theorem dX5_row_41 : decode cX5_row 41 = .ok (.invokevirtual 161, 3) := by decide +kernel
theorem dX5_row_44 : decode cX5_row 44 = .ok (.aload_n 0, 1) := by decide +kernel
theorem dX5_row_45 : decode cX5_row 45 = .ok (.getfield 43, 3) := by decide +kernel
theorem dX5_row_48 : decode cX5_row 48 = .ok (.getfield 160, 3) := by decide +kernel
theorem dX5_row_51 : decode cX5_row 51 = .ok (.ireturn, 1) := by decide +kernel
theorem dX5_judge_0 : decode cX5_judge 0 = .ok (.iload_n 1, 1) := by decide +kernel
theorem dX5_judge_1 : decode cX5_judge 1 = .ok (.ifCond .lt 8, 3) := by decide +kernel
theorem dX5_judge_4 : decode cX5_judge 4 = .ok (.iload_n 1, 1) := by decide +kernel
theorem dX5_judge_5 : decode cX5_judge 5 = .ok (.iconst 1, 1) := by decide +kernel
theorem dX5_judge_6 : decode cX5_judge 6 = .ok (.if_icmp .le 10, 3) := by decide +kernel
theorem dX5_judge_9 : decode cX5_judge 9 = .ok (.aload_n 0, 1) := by decide +kernel
theorem dX5_judge_10 : decode cX5_judge 10 = .ok (.bipush (-2), 2) := by decide +kernel
theorem dX5_judge_12 : decode cX5_judge 12 = .ok (.invokevirtual 54, 3) := by decide +kernel
theorem dX5_judge_15 : decode cX5_judge 15 = .ok (.ireturn, 1) := by decide +kernel
theorem dX5_judge_16 : decode cX5_judge 16 = .ok (.aload_n 0, 1) := by decide +kernel
theorem dX5_judge_17 : decode cX5_judge 17 = .ok (.getfield 43, 3) := by decide +kernel
theorem dX5_judge_20 : decode cX5_judge 20 = .ok (.aload_n 0, 1) := by decide +kernel
theorem dX5_judge_21 : decode cX5_judge 21 = .ok (.getfield 20, 3) := by decide +kernel
theorem dX5_judge_24 : decode cX5_judge 24 = .ok (.invokevirtual 164, 3) := by decide +kernel
theorem dX5_judge_27 : decode cX5_judge 27 = .ok (.iload_n 1, 1) := by decide +kernel
theorem dX5_judge_28 : decode cX5_judge 28 = .ok (.ifCond .ne 13, 3) := by decide +kernel
theorem dX5_judge_31 : decode cX5_judge 31 = .ok (.aload_n 0, 1) := by decide +kernel
theorem dX5_judge_32 : decode cX5_judge 32 = .ok (.getfield 43, 3) := by decide +kernel
theorem dX5_judge_35 : decode cX5_judge 35 = .ok (.getfield 167, 3) := by decide +kernel
theorem dX5_judge_38 : decode cX5_judge 38 = .ok (.goto 10, 3) := by decide +kernel
theorem dX5_judge_41 : decode cX5_judge 41 = .ok (.aload_n 0, 1) := by decide +kernel
theorem dX5_judge_42 : decode cX5_judge 42 = .ok (.getfield 43, 3) := by decide +kernel
theorem dX5_judge_45 : decode cX5_judge 45 = .ok (.getfield 170, 3) := by decide +kernel
theorem dX5_judge_48 : decode cX5_judge 48 = .ok (.ireturn, 1) := by decide +kernel
theorem dX5_image_0 : decode cX5_image 0 = .ok (.aload_n 0, 1) := by decide +kernel
theorem dX5_image_1 : decode cX5_image 1 = .ok (.getfield 30, 3) := by decide +kernel
theorem dX5_image_4 : decode cX5_image 4 = .ok (.aload_n 0, 1) := by decide +kernel
theorem dX5_image_5 : decode cX5_image 5 = .ok (.getfield 20, 3) := by decide +kernel
theorem dX5_image_8 : decode cX5_image 8 = .ok (.invokevirtual 70, 3) := by decide +kernel
theorem dX5_image_11 : decode cX5_image 11 = .ok (.aload_n 0, 1) := by decide +kernel
theorem dX5_image_12 : decode cX5_image 12 = .ok (.iconst 1, 1) := by decide +kernel
theorem dX5_image_13 : decode cX5_image 13 = .ok (.putfield 173, 3) := by decide +kernel
theorem dX5_image_16 : decode cX5_image 16 = .ok (.aload_n 0, 1) := by decide +kernel
theorem dX5_image_17 : decode cX5_image 17 = .ok (.getfield 30, 3) := by decide +kernel
theorem dX5_image_20 : decode cX5_image 20 = .ok (.getfield 138, 3) := by decide +kernel
theorem dX5_image_23 : decode cX5_image 23 = .ok (.ireturn, 1) := by decide +kernel
theorem dX5_on_0 : decode cX5_on 0 = .ok (.aload_n 0, 1) := by decide +kernel
theorem dX5_on_1 : decode cX5_on 1 = .ok (.getfield 173, 3) := by decide +kernel
theorem dX5_on_4 : decode cX5_on 4 = .ok (.ifCond .ne 10, 3) := by decide +kernel
theorem dX5_on_7 : decode cX5_on 7 = .ok (.aload_n 0, 1) := by decide +kernel
theorem dX5_on_8 : decode cX5_on 8 = .ok (.bipush (-3), 2) := by decide +kernel
theorem dX5_on_10 : decode cX5_on 10 = .ok (.invokevirtual 54, 3) := by decide +kernel
theorem dX5_on_13 : decode cX5_on 13 = .ok (.ireturn, 1) := by decide +kernel
theorem dX5_on_14 : decode cX5_on 14 = .ok (.aload_n 0, 1) := by decide +kernel
theorem dX5_on_15 : decode cX5_on 15 = .ok (.getfield 20, 3) := by decide +kernel
theorem dX5_on_18 : decode cX5_on 18 = .ok (.aload_n 0, 1) := by decide +kernel
theorem dX5_on_19 : decode cX5_on 19 = .ok (.getfield 30, 3) := by decide +kernel
theorem dX5_on_22 : decode cX5_on 22 = .ok (.invokevirtual 70, 3) := by decide +kernel
theorem dX5_on_25 : decode cX5_on 25 = .ok (.aload_n 0, 1) := by decide +kernel
theorem dX5_on_26 : decode cX5_on 26 = .ok (.getfield 20, 3) := by decide +kernel
theorem dX5_on_29 : decode cX5_on 29 = .ok (.getfield 138, 3) := by decide +kernel
theorem dX5_on_32 : decode cX5_on 32 = .ok (.ireturn, 1) := by decide +kernel
theorem dX5_count_0 : decode cX5_count 0 = .ok (.iload_n 1, 1) := by decide +kernel
theorem dX5_count_1 : decode cX5_count 1 = .ok (.tableswitch 118 0 7 #[47, 55, 63, 71, 79, 94, 102, 110], 47) := by decide +kernel
theorem dX5_count_48 : decode cX5_count 48 = .ok (.aload_n 0, 1) := by decide +kernel
theorem dX5_count_49 : decode cX5_count 49 = .ok (.getfield 20, 3) := by decide +kernel
theorem dX5_count_52 : decode cX5_count 52 = .ok (.getfield 150, 3) := by decide +kernel
theorem dX5_count_55 : decode cX5_count 55 = .ok (.ireturn, 1) := by decide +kernel
theorem dX5_count_56 : decode cX5_count 56 = .ok (.aload_n 0, 1) := by decide +kernel
theorem dX5_count_57 : decode cX5_count 57 = .ok (.getfield 20, 3) := by decide +kernel
theorem dX5_count_60 : decode cX5_count 60 = .ok (.getfield 138, 3) := by decide +kernel
theorem dX5_count_63 : decode cX5_count 63 = .ok (.ireturn, 1) := by decide +kernel
theorem dX5_count_64 : decode cX5_count 64 = .ok (.aload_n 0, 1) := by decide +kernel
theorem dX5_count_65 : decode cX5_count 65 = .ok (.getfield 20, 3) := by decide +kernel
theorem dX5_count_68 : decode cX5_count 68 = .ok (.getfield 144, 3) := by decide +kernel
theorem dX5_count_71 : decode cX5_count 71 = .ok (.ireturn, 1) := by decide +kernel
theorem dX5_count_72 : decode cX5_count 72 = .ok (.aload_n 0, 1) := by decide +kernel
theorem dX5_count_73 : decode cX5_count 73 = .ok (.getfield 20, 3) := by decide +kernel
theorem dX5_count_76 : decode cX5_count 76 = .ok (.invokevirtual 177, 3) := by decide +kernel
theorem dX5_count_79 : decode cX5_count 79 = .ok (.ireturn, 1) := by decide +kernel
theorem dX5_count_80 : decode cX5_count 80 = .ok (.aload_n 0, 1) := by decide +kernel
theorem dX5_count_81 : decode cX5_count 81 = .ok (.getfield 10, 3) := by decide +kernel
theorem dX5_count_84 : decode cX5_count 84 = .ok (.invokevirtual 126, 3) := by decide +kernel
theorem dX5_count_87 : decode cX5_count 87 = .ok (.aload_n 0, 1) := by decide +kernel
theorem dX5_count_88 : decode cX5_count 88 = .ok (.getfield 10, 3) := by decide +kernel
theorem dX5_count_91 : decode cX5_count 91 = .ok (.invokevirtual 180, 3) := by decide +kernel
theorem dX5_count_94 : decode cX5_count 94 = .ok (.ireturn, 1) := by decide +kernel
theorem dX5_count_95 : decode cX5_count 95 = .ok (.aload_n 0, 1) := by decide +kernel
theorem dX5_count_96 : decode cX5_count 96 = .ok (.getfield 20, 3) := by decide +kernel
theorem dX5_count_99 : decode cX5_count 99 = .ok (.getfield 109, 3) := by decide +kernel
theorem dX5_count_102 : decode cX5_count 102 = .ok (.ireturn, 1) := by decide +kernel
theorem dX5_count_103 : decode cX5_count 103 = .ok (.aload_n 0, 1) := by decide +kernel
theorem dX5_count_104 : decode cX5_count 104 = .ok (.getfield 43, 3) := by decide +kernel
theorem dX5_count_107 : decode cX5_count 107 = .ok (.getfield 160, 3) := by decide +kernel
theorem dX5_count_110 : decode cX5_count 110 = .ok (.ireturn, 1) := by decide +kernel
theorem dX5_count_111 : decode cX5_count 111 = .ok (.aload_n 0, 1) := by decide +kernel
theorem dX5_count_112 : decode cX5_count 112 = .ok (.getfield 36, 3) := by decide +kernel
theorem dX5_count_115 : decode cX5_count 115 = .ok (.getfield 66, 3) := by decide +kernel
theorem dX5_count_118 : decode cX5_count 118 = .ok (.ireturn, 1) := by decide +kernel
theorem dX5_count_119 : decode cX5_count 119 = .ok (.iload_n 1, 1) := by decide +kernel
theorem dX5_count_120 : decode cX5_count 120 = .ok (.bipush 11, 2) := by decide +kernel
theorem dX5_count_122 : decode cX5_count 122 = .ok (.if_icmp .lt 21, 3) := by decide +kernel
theorem dX5_count_125 : decode cX5_count 125 = .ok (.iload_n 1, 1) := by decide +kernel
theorem dX5_count_126 : decode cX5_count 126 = .ok (.bipush 16, 2) := by decide +kernel
theorem dX5_count_128 : decode cX5_count 128 = .ok (.if_icmp .gt 15, 3) := by decide +kernel
theorem dX5_count_131 : decode cX5_count 131 = .ok (.aload_n 0, 1) := by decide +kernel
theorem dX5_count_132 : decode cX5_count 132 = .ok (.getfield 51, 3) := by decide +kernel
theorem dX5_count_135 : decode cX5_count 135 = .ok (.iload_n 1, 1) := by decide +kernel
theorem dX5_count_136 : decode cX5_count 136 = .ok (.bipush 10, 2) := by decide +kernel
theorem dX5_count_138 : decode cX5_count 138 = .ok (.isub, 1) := by decide +kernel
theorem dX5_count_139 : decode cX5_count 139 = .ok (.iaload, 1) := by decide +kernel
theorem dX5_count_140 : decode cX5_count 140 = .ok (.goto 5, 3) := by decide +kernel
theorem dX5_count_143 : decode cX5_count 143 = .ok (.bipush (-9), 2) := by decide +kernel
theorem dX5_count_145 : decode cX5_count 145 = .ok (.ireturn, 1) := by decide +kernel
theorem dX5_refuse_0 : decode cX5_refuse 0 = .ok (.iload_n 1, 1) := by decide +kernel
theorem dX5_refuse_1 : decode cX5_refuse 1 = .ok (.ineg, 1) := by decide +kernel
theorem dX5_refuse_2 : decode cX5_refuse 2 = .ok (.istore_n 2, 1) := by decide +kernel
theorem dX5_refuse_3 : decode cX5_refuse 3 = .ok (.iload_n 2, 1) := by decide +kernel
theorem dX5_refuse_4 : decode cX5_refuse 4 = .ok (.ifCond .lt 22, 3) := by decide +kernel
theorem dX5_refuse_7 : decode cX5_refuse 7 = .ok (.iload_n 2, 1) := by decide +kernel
theorem dX5_refuse_8 : decode cX5_refuse 8 = .ok (.aload_n 0, 1) := by decide +kernel
theorem dX5_refuse_9 : decode cX5_refuse 9 = .ok (.getfield 51, 3) := by decide +kernel
theorem dX5_refuse_12 : decode cX5_refuse 12 = .ok (.arraylength, 1) := by decide +kernel
theorem dX5_refuse_13 : decode cX5_refuse 13 = .ok (.if_icmp .ge 13, 3) := by decide +kernel
theorem dX5_refuse_16 : decode cX5_refuse 16 = .ok (.aload_n 0, 1) := by decide +kernel
theorem dX5_refuse_17 : decode cX5_refuse 17 = .ok (.getfield 51, 3) := by decide +kernel
theorem dX5_refuse_20 : decode cX5_refuse 20 = .ok (.iload_n 2, 1) := by decide +kernel
theorem dX5_refuse_21 : decode cX5_refuse 21 = .ok (.dup2, 1) := by decide +kernel
theorem dX5_refuse_22 : decode cX5_refuse 22 = .ok (.iaload, 1) := by decide +kernel
theorem dX5_refuse_23 : decode cX5_refuse 23 = .ok (.iconst 1, 1) := by decide +kernel
theorem dX5_refuse_24 : decode cX5_refuse 24 = .ok (.iadd, 1) := by decide +kernel
theorem dX5_refuse_25 : decode cX5_refuse 25 = .ok (.iastore, 1) := by decide +kernel
theorem dX5_refuse_26 : decode cX5_refuse 26 = .ok (.iload_n 1, 1) := by decide +kernel
theorem dX5_refuse_27 : decode cX5_refuse 27 = .ok (.ireturn, 1) := by decide +kernel
theorem dX5_waitedOnTrial_0 : decode cX5_waitedOnTrial 0 = .ok (.aload_n 0, 1) := by decide +kernel
theorem dX5_waitedOnTrial_1 : decode cX5_waitedOnTrial 1 = .ok (.getfield 21, 3) := by decide +kernel
theorem dX5_waitedOnTrial_4 : decode cX5_waitedOnTrial 4 = .ok (.invokevirtual 126, 3) := by decide +kernel
theorem dX5_waitedOnTrial_7 : decode cX5_waitedOnTrial 7 = .ok (.aload_n 0, 1) := by decide +kernel
theorem dX5_waitedOnTrial_8 : decode cX5_waitedOnTrial 8 = .ok (.getfield 21, 3) := by decide +kernel
theorem dX5_waitedOnTrial_11 : decode cX5_waitedOnTrial 11 = .ok (.invokevirtual 132, 3) := by decide +kernel
theorem dX5_waitedOnTrial_14 : decode cX5_waitedOnTrial 14 = .ok (.ireturn, 1) := by decide +kernel
theorem dX5_findBestOrder_0 : decode cX5_findBestOrder 0 = .ok (.aload_n 0, 1) := by decide +kernel
theorem dX5_findBestOrder_1 : decode cX5_findBestOrder 1 = .ok (.getfield 24, 3) := by decide +kernel
theorem dX5_findBestOrder_4 : decode cX5_findBestOrder 4 = .ok (.aload_n 0, 1) := by decide +kernel
theorem dX5_findBestOrder_5 : decode cX5_findBestOrder 5 = .ok (.getfield 20, 3) := by decide +kernel
theorem dX5_findBestOrder_8 : decode cX5_findBestOrder 8 = .ok (.invokevirtual 70, 3) := by decide +kernel
theorem dX5_findBestOrder_11 : decode cX5_findBestOrder 11 = .ok (.aload_n 0, 1) := by decide +kernel
theorem dX5_findBestOrder_12 : decode cX5_findBestOrder 12 = .ok (.getfield 24, 3) := by decide +kernel
theorem dX5_findBestOrder_15 : decode cX5_findBestOrder 15 = .ok (.getfield 102, 3) := by decide +kernel
theorem dX5_findBestOrder_18 : decode cX5_findBestOrder 18 = .ok (.bipush 7, 2) := by decide +kernel
theorem dX5_findBestOrder_20 : decode cX5_findBestOrder 20 = .ok (.iconst 3, 1) := by decide +kernel
theorem dX5_findBestOrder_21 : decode cX5_findBestOrder 21 = .ok (.iastore, 1) := by decide +kernel
theorem dX5_findBestOrder_22 : decode cX5_findBestOrder 22 = .ok (.aload_n 0, 1) := by decide +kernel
theorem dX5_findBestOrder_23 : decode cX5_findBestOrder 23 = .ok (.getfield 24, 3) := by decide +kernel
theorem dX5_findBestOrder_26 : decode cX5_findBestOrder 26 = .ok (.invokevirtual 183, 3) := by decide +kernel
theorem dX5_findBestOrder_29 : decode cX5_findBestOrder 29 = .ok (.bipush (-9), 2) := by decide +kernel
theorem dX5_findBestOrder_31 : decode cX5_findBestOrder 31 = .ok (.istore_n 1, 1) := by decide +kernel
theorem dX5_findBestOrder_32 : decode cX5_findBestOrder 32 = .ok (.iconst 1, 1) := by decide +kernel
theorem dX5_findBestOrder_33 : decode cX5_findBestOrder 33 = .ok (.istore_n 2, 1) := by decide +kernel
theorem dX5_findBestOrder_34 : decode cX5_findBestOrder 34 = .ok (.iconst 0, 1) := by decide +kernel
theorem dX5_findBestOrder_35 : decode cX5_findBestOrder 35 = .ok (.istore_n 3, 1) := by decide +kernel
theorem dX5_findBestOrder_36 : decode cX5_findBestOrder 36 = .ok (.iload_n 3, 1) := by decide +kernel
theorem dX5_findBestOrder_37 : decode cX5_findBestOrder 37 = .ok (.bipush 120, 2) := by decide +kernel
theorem dX5_findBestOrder_39 : decode cX5_findBestOrder 39 = .ok (.if_icmp .ge 60, 3) := by decide +kernel
theorem dX5_findBestOrder_42 : decode cX5_findBestOrder 42 = .ok (.iload_n 2, 1) := by decide +kernel
theorem dX5_findBestOrder_43 : decode cX5_findBestOrder 43 = .ok (.ifCond .eq 56, 3) := by decide +kernel
theorem dX5_findBestOrder_46 : decode cX5_findBestOrder 46 = .ok (.aload_n 0, 1) := by decide +kernel
theorem dX5_findBestOrder_47 : decode cX5_findBestOrder 47 = .ok (.invokevirtual 147, 3) := by decide +kernel
theorem dX5_findBestOrder_50 : decode cX5_findBestOrder 50 = .ok (.istore 4, 2) := by decide +kernel
theorem dX5_findBestOrder_52 : decode cX5_findBestOrder 52 = .ok (.iload_n 1, 1) := by decide +kernel
theorem dX5_findBestOrder_53 : decode cX5_findBestOrder 53 = .ok (.bipush (-9), 2) := by decide +kernel
theorem dX5_findBestOrder_55 : decode cX5_findBestOrder 55 = .ok (.if_icmp .eq 9, 3) := by decide +kernel
theorem dX5_findBestOrder_58 : decode cX5_findBestOrder 58 = .ok (.iload 4, 2) := by decide +kernel
theorem dX5_findBestOrder_60 : decode cX5_findBestOrder 60 = .ok (.iload_n 1, 1) := by decide +kernel
theorem dX5_findBestOrder_61 : decode cX5_findBestOrder 61 = .ok (.if_icmp .ge 24, 3) := by decide +kernel
theorem dX5_findBestOrder_64 : decode cX5_findBestOrder 64 = .ok (.iload 4, 2) := by decide +kernel
theorem dX5_findBestOrder_66 : decode cX5_findBestOrder 66 = .ok (.istore_n 1, 1) := by decide +kernel
theorem dX5_findBestOrder_67 : decode cX5_findBestOrder 67 = .ok (.aload_n 0, 1) := by decide +kernel
theorem dX5_findBestOrder_68 : decode cX5_findBestOrder 68 = .ok (.getfield 24, 3) := by decide +kernel
theorem dX5_findBestOrder_71 : decode cX5_findBestOrder 71 = .ok (.getfield 186, 3) := by decide +kernel
theorem dX5_findBestOrder_74 : decode cX5_findBestOrder 74 = .ok (.iconst 0, 1) := by decide +kernel
theorem dX5_findBestOrder_75 : decode cX5_findBestOrder 75 = .ok (.aload_n 0, 1) := by decide +kernel
theorem dX5_findBestOrder_76 : decode cX5_findBestOrder 76 = .ok (.getfield 47, 3) := by decide +kernel
theorem dX5_findBestOrder_79 : decode cX5_findBestOrder 79 = .ok (.iconst 0, 1) := by decide +kernel
theorem dX5_findBestOrder_80 : decode cX5_findBestOrder 80 = .ok (.bipush 8, 2) := by decide +kernel
theorem dX5_findBestOrder_82 : decode cX5_findBestOrder 82 = .ok (.invokestatic 189, 3) := by decide +kernel
theorem dX5_findBestOrder_85 : decode cX5_findBestOrder 85 = .ok (.aload_n 0, 1) := by decide +kernel
theorem dX5_findBestOrder_86 : decode cX5_findBestOrder 86 = .ok (.getfield 24, 3) := by decide +kernel
theorem dX5_findBestOrder_89 : decode cX5_findBestOrder 89 = .ok (.invokevirtual 195, 3) := by decide +kernel
theorem dX5_findBestOrder_92 : decode cX5_findBestOrder 92 = .ok (.istore_n 2, 1) := by decide +kernel
theorem dX5_findBestOrder_93 : decode cX5_findBestOrder 93 = .ok (.iinc 3 1, 3) := by decide +kernel
theorem dX5_findBestOrder_96 : decode cX5_findBestOrder 96 = .ok (.goto (-60), 3) := by decide +kernel
theorem dX5_findBestOrder_99 : decode cX5_findBestOrder 99 = .ok (.iload_n 1, 1) := by decide +kernel
theorem dX5_findBestOrder_100 : decode cX5_findBestOrder 100 = .ok (.ireturn, 1) := by decide +kernel
theorem dX6_init_0 : decode cX6_init 0 = .ok (.aload_n 0, 1) := by decide +kernel
theorem dX6_init_1 : decode cX6_init 1 = .ok (.invokespecial 1, 3) := by decide +kernel
theorem dX6_init_4 : decode cX6_init 4 = .ok (.aload_n 0, 1) := by decide +kernel
theorem dX6_init_5 : decode cX6_init 5 = .ok (.bipush 7, 2) := by decide +kernel
theorem dX6_init_7 : decode cX6_init 7 = .ok (.newarray .int, 2) := by decide +kernel
theorem dX6_init_9 : decode cX6_init 9 = .ok (.putfield 7, 3) := by decide +kernel
theorem dX6_init_12 : decode cX6_init 12 = .ok (.aload_n 0, 1) := by decide +kernel
theorem dX6_init_13 : decode cX6_init 13 = .ok (.bipush 47, 2) := by decide +kernel
theorem dX6_init_15 : decode cX6_init 15 = .ok (.newarray .int, 2) := by decide +kernel
theorem dX6_init_17 : decode cX6_init 17 = .ok (.putfield 13, 3) := by decide +kernel
theorem dX6_init_20 : decode cX6_init 20 = .ok (.aload_n 0, 1) := by decide +kernel
theorem dX6_init_21 : decode cX6_init 21 = .ok (.bipush 47, 2) := by decide +kernel
theorem dX6_init_23 : decode cX6_init 23 = .ok (.newarray .int, 2) := by decide +kernel
theorem dX6_init_25 : decode cX6_init 25 = .ok (.putfield 16, 3) := by decide +kernel
theorem dX6_init_28 : decode cX6_init 28 = .ok (.aload_n 0, 1) := by decide +kernel
theorem dX6_init_29 : decode cX6_init 29 = .ok (.bipush 47, 2) := by decide +kernel
theorem dX6_init_31 : decode cX6_init 31 = .ok (.newarray .int, 2) := by decide +kernel
theorem dX6_init_33 : decode cX6_init 33 = .ok (.putfield 19, 3) := by decide +kernel
theorem dX6_init_36 : decode cX6_init 36 = .ok (.aload_n 0, 1) := by decide +kernel
theorem dX6_init_37 : decode cX6_init 37 = .ok (.bipush 48, 2) := by decide +kernel
theorem dX6_init_39 : decode cX6_init 39 = .ok (.newarray .int, 2) := by decide +kernel
theorem dX6_init_41 : decode cX6_init 41 = .ok (.putfield 22, 3) := by decide +kernel
theorem dX6_init_44 : decode cX6_init 44 = .ok (.aload_n 0, 1) := by decide +kernel
theorem dX6_init_45 : decode cX6_init 45 = .ok (.iconst 2, 1) := by decide +kernel
theorem dX6_init_46 : decode cX6_init 46 = .ok (.newarray .int, 2) := by decide +kernel
theorem dX6_init_48 : decode cX6_init 48 = .ok (.putfield 25, 3) := by decide +kernel
theorem dX6_init_51 : decode cX6_init 51 = .ok (.aload_n 0, 1) := by decide +kernel
theorem dX6_init_52 : decode cX6_init 52 = .ok (.bipush 8, 2) := by decide +kernel
theorem dX6_init_54 : decode cX6_init 54 = .ok (.newarray .int, 2) := by decide +kernel
theorem dX6_init_56 : decode cX6_init 56 = .ok (.putfield 28, 3) := by decide +kernel
theorem dX6_init_59 : decode cX6_init 59 = .ok (.aload_n 0, 1) := by decide +kernel
theorem dX6_init_60 : decode cX6_init 60 = .ok (.bipush 6, 2) := by decide +kernel
theorem dX6_init_62 : decode cX6_init 62 = .ok (.newarray .int, 2) := by decide +kernel
theorem dX6_init_64 : decode cX6_init 64 = .ok (.putfield 31, 3) := by decide +kernel
theorem dX6_init_67 : decode cX6_init 67 = .ok (.aload_n 0, 1) := by decide +kernel
theorem dX6_init_68 : decode cX6_init 68 = .ok (.bipush 8, 2) := by decide +kernel
theorem dX6_init_70 : decode cX6_init 70 = .ok (.newarray .int, 2) := by decide +kernel
theorem dX6_init_72 : decode cX6_init 72 = .ok (.putfield 34, 3) := by decide +kernel
theorem dX6_init_75 : decode cX6_init 75 = .ok (.aload_n 0, 1) := by decide +kernel
theorem dX6_init_76 : decode cX6_init 76 = .ok (.bipush 47, 2) := by decide +kernel
theorem dX6_init_78 : decode cX6_init 78 = .ok (.newarray .int, 2) := by decide +kernel
theorem dX6_init_80 : decode cX6_init 80 = .ok (.putfield 37, 3) := by decide +kernel
theorem dX6_init_83 : decode cX6_init 83 = .ok (.aload_n 0, 1) := by decide +kernel
theorem dX6_init_84 : decode cX6_init 84 = .ok (.bipush 8, 2) := by decide +kernel
theorem dX6_init_86 : decode cX6_init 86 = .ok (.newarray .int, 2) := by decide +kernel
theorem dX6_init_88 : decode cX6_init 88 = .ok (.putfield 40, 3) := by decide +kernel
theorem dX6_init_91 : decode cX6_init 91 = .ok (.aload_n 0, 1) := by decide +kernel
theorem dX6_init_92 : decode cX6_init 92 = .ok (.bipush 16, 2) := by decide +kernel
theorem dX6_init_94 : decode cX6_init 94 = .ok (.newarray .int, 2) := by decide +kernel
theorem dX6_init_96 : decode cX6_init 96 = .ok (.putfield 43, 3) := by decide +kernel
theorem dX6_init_99 : decode cX6_init 99 = .ok (.aload_n 0, 1) := by decide +kernel
theorem dX6_init_100 : decode cX6_init 100 = .ok (.getfield 13, 3) := by decide +kernel
theorem dX6_init_103 : decode cX6_init 103 = .ok (.iconst 4, 1) := by decide +kernel
theorem dX6_init_104 : decode cX6_init 104 = .ok (.sipush 300, 3) := by decide +kernel
theorem dX6_init_107 : decode cX6_init 107 = .ok (.iastore, 1) := by decide +kernel
theorem dX6_init_108 : decode cX6_init 108 = .ok (.aload_n 0, 1) := by decide +kernel
theorem dX6_init_109 : decode cX6_init 109 = .ok (.getfield 13, 3) := by decide +kernel
theorem dX6_init_112 : decode cX6_init 112 = .ok (.iconst 5, 1) := by decide +kernel
theorem dX6_init_113 : decode cX6_init 113 = .ok (.sipush 600, 3) := by decide +kernel
theorem dX6_init_116 : decode cX6_init 116 = .ok (.iastore, 1) := by decide +kernel
theorem dX6_init_117 : decode cX6_init 117 = .ok (.aload_n 0, 1) := by decide +kernel
theorem dX6_init_118 : decode cX6_init 118 = .ok (.getfield 13, 3) := by decide +kernel
theorem dX6_init_121 : decode cX6_init 121 = .ok (.bipush 6, 2) := by decide +kernel
theorem dX6_init_123 : decode cX6_init 123 = .ok (.bipush 20, 2) := by decide +kernel
theorem dX6_init_125 : decode cX6_init 125 = .ok (.iastore, 1) := by decide +kernel
theorem dX6_init_126 : decode cX6_init 126 = .ok (.aload_n 0, 1) := by decide +kernel
theorem dX6_init_127 : decode cX6_init 127 = .ok (.getfield 13, 3) := by decide +kernel
theorem dX6_init_130 : decode cX6_init 130 = .ok (.bipush 7, 2) := by decide +kernel
theorem dX6_init_132 : decode cX6_init 132 = .ok (.iconst 3, 1) := by decide +kernel
theorem dX6_init_133 : decode cX6_init 133 = .ok (.iastore, 1) := by decide +kernel
theorem dX6_init_134 : decode cX6_init 134 = .ok (.aload_n 0, 1) := by decide +kernel
theorem dX6_init_135 : decode cX6_init 135 = .ok (.getfield 13, 3) := by decide +kernel
theorem dX6_init_138 : decode cX6_init 138 = .ok (.bipush 8, 2) := by decide +kernel
theorem dX6_init_140 : decode cX6_init 140 = .ok (.iconst 2, 1) := by decide +kernel
theorem dX6_init_141 : decode cX6_init 141 = .ok (.iastore, 1) := by decide +kernel
theorem dX6_init_142 : decode cX6_init 142 = .ok (.aload_n 0, 1) := by decide +kernel
theorem dX6_init_143 : decode cX6_init 143 = .ok (.getfield 13, 3) := by decide +kernel
theorem dX6_init_146 : decode cX6_init 146 = .ok (.bipush 9, 2) := by decide +kernel
theorem dX6_init_148 : decode cX6_init 148 = .ok (.iconst 5, 1) := by decide +kernel
theorem dX6_init_149 : decode cX6_init 149 = .ok (.iastore, 1) := by decide +kernel
theorem dX6_init_150 : decode cX6_init 150 = .ok (.return_, 1) := by decide +kernel
theorem dX6_refuse_0 : decode cX6_refuse 0 = .ok (.aload_n 0, 1) := by decide +kernel
theorem dX6_refuse_1 : decode cX6_refuse 1 = .ok (.getfield 7, 3) := by decide +kernel
theorem dX6_refuse_4 : decode cX6_refuse 4 = .ok (.iload_n 1, 1) := by decide +kernel
theorem dX6_refuse_5 : decode cX6_refuse 5 = .ok (.ineg, 1) := by decide +kernel
theorem dX6_refuse_6 : decode cX6_refuse 6 = .ok (.dup2, 1) := by decide +kernel
theorem dX6_refuse_7 : decode cX6_refuse 7 = .ok (.iaload, 1) := by decide +kernel
theorem dX6_refuse_8 : decode cX6_refuse 8 = .ok (.iconst 1, 1) := by decide +kernel
theorem dX6_refuse_9 : decode cX6_refuse 9 = .ok (.iadd, 1) := by decide +kernel
theorem dX6_refuse_10 : decode cX6_refuse 10 = .ok (.iastore, 1) := by decide +kernel
theorem dX6_refuse_11 : decode cX6_refuse 11 = .ok (.iload_n 1, 1) := by decide +kernel
theorem dX6_refuse_12 : decode cX6_refuse 12 = .ok (.ireturn, 1) := by decide +kernel
theorem dX6_isIn_0 : decode cX6_isIn 0 = .ok (.iload_n 0, 1) := by decide +kernel
theorem dX6_isIn_1 : decode cX6_isIn 1 = .ok (.ifCond .lt 12, 3) := by decide +kernel
theorem dX6_isIn_4 : decode cX6_isIn 4 = .ok (.iload_n 0, 1) := by decide +kernel
theorem dX6_isIn_5 : decode cX6_isIn 5 = .ok (.iload_n 1, 1) := by decide +kernel
theorem dX6_isIn_6 : decode cX6_isIn 6 = .ok (.if_icmp .ge 7, 3) := by decide +kernel
theorem dX6_isIn_9 : decode cX6_isIn 9 = .ok (.iconst 1, 1) := by decide +kernel
theorem dX6_isIn_10 : decode cX6_isIn 10 = .ok (.goto 4, 3) := by decide +kernel
theorem dX6_isIn_13 : decode cX6_isIn 13 = .ok (.iconst 0, 1) := by decide +kernel
theorem dX6_isIn_14 : decode cX6_isIn 14 = .ok (.ireturn, 1) := by decide +kernel
theorem dX6_within_0 : decode cX6_within 0 = .ok (.iload_n 0, 1) := by decide +kernel
theorem dX6_within_1 : decode cX6_within 1 = .ok (.iload_n 1, 1) := by decide +kernel
theorem dX6_within_2 : decode cX6_within 2 = .ok (.if_icmp .ge 8, 3) := by decide +kernel
theorem dX6_within_5 : decode cX6_within 5 = .ok (.bipush (-4), 2) := by decide +kernel
theorem dX6_within_7 : decode cX6_within 7 = .ok (.goto 14, 3) := by decide +kernel
theorem dX6_within_10 : decode cX6_within 10 = .ok (.iload_n 0, 1) := by decide +kernel
theorem dX6_within_11 : decode cX6_within 11 = .ok (.iload_n 2, 1) := by decide +kernel
theorem dX6_within_12 : decode cX6_within 12 = .ok (.if_icmp .le 8, 3) := by decide +kernel
theorem dX6_within_15 : decode cX6_within 15 = .ok (.bipush (-6), 2) := by decide +kernel
theorem dX6_within_17 : decode cX6_within 17 = .ok (.goto 4, 3) := by decide +kernel
theorem dX6_within_20 : decode cX6_within 20 = .ok (.iconst 0, 1) := by decide +kernel
theorem dX6_within_21 : decode cX6_within 21 = .ok (.ireturn, 1) := by decide +kernel
theorem dX6_isPiece_0 : decode cX6_isPiece 0 = .ok (.iload_n 1, 1) := by decide +kernel
theorem dX6_isPiece_1 : decode cX6_isPiece 1 = .ok (.aload_n 0, 1) := by decide +kernel
theorem dX6_isPiece_2 : decode cX6_isPiece 2 = .ok (.getfield 13, 3) := by decide +kernel
theorem dX6_isPiece_5 : decode cX6_isPiece 5 = .ok (.iconst 0, 1) := by decide +kernel
theorem dX6_isPiece_6 : decode cX6_isPiece 6 = .ok (.iaload, 1) := by decide +kernel
theorem dX6_isPiece_7 : decode cX6_isPiece 7 = .ok (.invokestatic 46, 3) := by decide +kernel
theorem dX6_isPiece_10 : decode cX6_isPiece 10 = .ok (.ireturn, 1) := by decide +kernel
theorem dX6_isTrain_0 : decode cX6_isTrain 0 = .ok (.iload_n 1, 1) := by decide +kernel
theorem dX6_isTrain_1 : decode cX6_isTrain 1 = .ok (.aload_n 0, 1) := by decide +kernel
theorem dX6_isTrain_2 : decode cX6_isTrain 2 = .ok (.getfield 13, 3) := by decide +kernel
theorem dX6_isTrain_5 : decode cX6_isTrain 5 = .ok (.iconst 1, 1) := by decide +kernel
theorem dX6_isTrain_6 : decode cX6_isTrain 6 = .ok (.iaload, 1) := by decide +kernel
theorem dX6_isTrain_7 : decode cX6_isTrain 7 = .ok (.invokestatic 46, 3) := by decide +kernel
theorem dX6_isTrain_10 : decode cX6_isTrain 10 = .ok (.ireturn, 1) := by decide +kernel
theorem dX6_feed_0 : decode cX6_feed 0 = .ok (.iload_n 1, 1) := by decide +kernel
theorem dX6_feed_1 : decode cX6_feed 1 = .ok (.iconst 1, 1) := by decide +kernel
theorem dX6_feed_2 : decode cX6_feed 2 = .ok (.if_icmp .ge 10, 3) := by decide +kernel
theorem dX6_feed_5 : decode cX6_feed 5 = .ok (.aload_n 0, 1) := by decide +kernel
theorem dX6_feed_6 : decode cX6_feed 6 = .ok (.bipush (-4), 2) := by decide +kernel
theorem dX6_feed_8 : decode cX6_feed 8 = .ok (.invokevirtual 50, 3) := by decide +kernel
theorem dX6_feed_11 : decode cX6_feed 11 = .ok (.ireturn, 1) := by decide +kernel
theorem dX6_feed_12 : decode cX6_feed 12 = .ok (.iload_n 1, 1) := by decide +kernel
theorem dX6_feed_13 : decode cX6_feed 13 = .ok (.bipush 8, 2) := by decide +kernel
theorem dX6_feed_15 : decode cX6_feed 15 = .ok (.if_icmp .gt 14, 3) := by decide +kernel
theorem dX6_feed_18 : decode cX6_feed 18 = .ok (.aload_n 0, 1) := by decide +kernel
theorem dX6_feed_19 : decode cX6_feed 19 = .ok (.getfield 54, 3) := by decide +kernel
theorem dX6_feed_22 : decode cX6_feed 22 = .ok (.iload_n 1, 1) := by decide +kernel
theorem dX6_feed_23 : decode cX6_feed 23 = .ok (.iadd, 1) := by decide +kernel
theorem dX6_feed_24 : decode cX6_feed 24 = .ok (.bipush 48, 2) := by decide +kernel
theorem dX6_feed_26 : decode cX6_feed 26 = .ok (.if_icmp .le 10, 3) := by decide +kernel
theorem dX6_feed_29 : decode cX6_feed 29 = .ok (.aload_n 0, 1) := by decide +kernel
theorem dX6_feed_30 : decode cX6_feed 30 = .ok (.bipush (-6), 2) := by decide +kernel
theorem dX6_feed_32 : decode cX6_feed 32 = .ok (.invokevirtual 50, 3) := by decide +kernel
theorem dX6_feed_35 : decode cX6_feed 35 = .ok (.ireturn, 1) := by decide +kernel
theorem dX6_feed_36 : decode cX6_feed 36 = .ok (.iconst 0, 1) := by decide +kernel
theorem dX6_feed_37 : decode cX6_feed 37 = .ok (.istore 4, 2) := by decide +kernel
theorem dX6_feed_39 : decode cX6_feed 39 = .ok (.iload 4, 2) := by decide +kernel
theorem dX6_feed_41 : decode cX6_feed 41 = .ok (.iload_n 1, 1) := by decide +kernel
theorem dX6_feed_42 : decode cX6_feed 42 = .ok (.if_icmp .ge 40, 3) := by decide +kernel
theorem dX6_feed_45 : decode cX6_feed 45 = .ok (.aload_n 0, 1) := by decide +kernel
theorem dX6_feed_46 : decode cX6_feed 46 = .ok (.getfield 22, 3) := by decide +kernel
theorem dX6_feed_49 : decode cX6_feed 49 = .ok (.aload_n 0, 1) := by decide +kernel
theorem dX6_feed_50 : decode cX6_feed 50 = .ok (.getfield 54, 3) := by decide +kernel
theorem dX6_feed_53 : decode cX6_feed 53 = .ok (.lload_n 2, 1) := by decide +kernel
theorem dX6_feed_54 : decode cX6_feed 54 = .ok (.bipush 8, 2) := by decide +kernel
theorem dX6_feed_56 : decode cX6_feed 56 = .ok (.iload 4, 2) := by decide +kernel
theorem dX6_feed_58 : decode cX6_feed 58 = .ok (.imul, 1) := by decide +kernel
theorem dX6_feed_59 : decode cX6_feed 59 = .ok (.lshr, 1) := by decide +kernel
theorem dX6_feed_60 : decode cX6_feed 60 = .ok (.ldc2_w 58, 3) := by decide +kernel
theorem dX6_feed_63 : decode cX6_feed 63 = .ok (.land, 1) := by decide +kernel
theorem dX6_feed_64 : decode cX6_feed 64 = .ok (.l2i, 1) := by decide +kernel
theorem dX6_feed_65 : decode cX6_feed 65 = .ok (.iastore, 1) := by decide +kernel
theorem dX6_feed_66 : decode cX6_feed 66 = .ok (.aload_n 0, 1) := by decide +kernel
theorem dX6_feed_67 : decode cX6_feed 67 = .ok (.dup, 1) := by decide +kernel
theorem dX6_feed_68 : decode cX6_feed 68 = .ok (.getfield 54, 3) := by decide +kernel
theorem dX6_feed_71 : decode cX6_feed 71 = .ok (.iconst 1, 1) := by decide +kernel
theorem dX6_feed_72 : decode cX6_feed 72 = .ok (.iadd, 1) := by decide +kernel
theorem dX6_feed_73 : decode cX6_feed 73 = .ok (.putfield 54, 3) := by decide +kernel
theorem dX6_feed_76 : decode cX6_feed 76 = .ok (.iinc 4 1, 3) := by decide +kernel
theorem dX6_feed_79 : decode cX6_feed 79 = .ok (.goto (-40), 3) := by decide +kernel
theorem dX6_feed_82 : decode cX6_feed 82 = .ok (.aload_n 0, 1) := by decide +kernel
theorem dX6_feed_83 : decode cX6_feed 83 = .ok (.getfield 54, 3) := by decide +kernel
theorem dX6_feed_86 : decode cX6_feed 86 = .ok (.ireturn, 1) := by decide +kernel
theorem dX6_sign_0 : decode cX6_sign 0 = .ok (.aload_n 0, 1) := by decide +kernel
theorem dX6_sign_1 : decode cX6_sign 1 = .ok (.getfield 60, 3) := by decide +kernel
theorem dX6_sign_4 : decode cX6_sign 4 = .ok (.aload_n 0, 1) := by decide +kernel
theorem dX6_sign_5 : decode cX6_sign 5 = .ok (.getfield 54, 3) := by decide +kernel
theorem dX6_sign_8 : decode cX6_sign 8 = .ok (.if_icmp .lt 7, 3) := by decide +kernel
theorem dX6_sign_11 : decode cX6_sign 11 = .ok (.iconst (-1), 1) := by decide +kernel
theorem dX6_sign_12 : decode cX6_sign 12 = .ok (.goto 12, 3) := by decide +kernel
theorem dX6_sign_15 : decode cX6_sign 15 = .ok (.aload_n 0, 1) := by decide +kernel
theorem dX6_sign_16 : decode cX6_sign 16 = .ok (.getfield 22, 3) := by decide +kernel
theorem dX6_sign_19 : decode cX6_sign 19 = .ok (.aload_n 0, 1) := by decide +kernel
theorem dX6_sign_20 : decode cX6_sign 20 = .ok (.getfield 60, 3) := by decide +kernel
theorem dX6_sign_23 : decode cX6_sign 23 = .ok (.iaload, 1) := by decide +kernel
theorem dX6_sign_24 : decode cX6_sign 24 = .ok (.ireturn, 1) := by decide +kernel
theorem dX6_isDigit_0 : decode cX6_isDigit 0 = .ok (.aload_n 0, 1) := by decide +kernel
theorem dX6_isDigit_1 : decode cX6_isDigit 1 = .ok (.invokevirtual 63, 3) := by decide +kernel
theorem dX6_isDigit_4 : decode cX6_isDigit 4 = .ok (.bipush 48, 2) := by decide +kernel
theorem dX6_isDigit_6 : decode cX6_isDigit 6 = .ok (.if_icmp .lt 16, 3) := by decide +kernel
theorem dX6_isDigit_9 : decode cX6_isDigit 9 = .ok (.aload_n 0, 1) := by decide +kernel
theorem dX6_isDigit_10 : decode cX6_isDigit 10 = .ok (.invokevirtual 63, 3) := by decide +kernel
theorem dX6_isDigit_13 : decode cX6_isDigit 13 = .ok (.bipush 57, 2) := by decide +kernel
theorem dX6_isDigit_15 : decode cX6_isDigit 15 = .ok (.if_icmp .gt 7, 3) := by decide +kernel
theorem dX6_isDigit_18 : decode cX6_isDigit 18 = .ok (.iconst 1, 1) := by decide +kernel
theorem dX6_isDigit_19 : decode cX6_isDigit 19 = .ok (.goto 4, 3) := by decide +kernel
theorem dX6_isDigit_22 : decode cX6_isDigit 22 = .ok (.iconst 0, 1) := by decide +kernel
theorem dX6_isDigit_23 : decode cX6_isDigit 23 = .ok (.ireturn, 1) := by decide +kernel
theorem dX6_takesSign_0 : decode cX6_takesSign 0 = .ok (.aload_n 0, 1) := by decide +kernel
theorem dX6_takesSign_1 : decode cX6_takesSign 1 = .ok (.invokevirtual 63, 3) := by decide +kernel
theorem dX6_takesSign_4 : decode cX6_takesSign 4 = .ok (.iload_n 1, 1) := by decide +kernel
theorem dX6_takesSign_5 : decode cX6_takesSign 5 = .ok (.if_icmp .eq 5, 3) := by decide +kernel
theorem dX6_takesSign_8 : decode cX6_takesSign 8 = .ok (.iconst 0, 1) := by decide +kernel
theorem dX6_takesSign_9 : decode cX6_takesSign 9 = .ok (.ireturn, 1) := by decide +kernel
theorem dX6_takesSign_10 : decode cX6_takesSign 10 = .ok (.aload_n 0, 1) := by decide +kernel
theorem dX6_takesSign_11 : decode cX6_takesSign 11 = .ok (.dup, 1) := by decide +kernel
theorem dX6_takesSign_12 : decode cX6_takesSign 12 = .ok (.getfield 60, 3) := by decide +kernel
theorem dX6_takesSign_15 : decode cX6_takesSign 15 = .ok (.iconst 1, 1) := by decide +kernel
theorem dX6_takesSign_16 : decode cX6_takesSign 16 = .ok (.iadd, 1) := by decide +kernel
theorem dX6_takesSign_17 : decode cX6_takesSign 17 = .ok (.putfield 60, 3) := by decide +kernel
theorem dX6_takesSign_20 : decode cX6_takesSign 20 = .ok (.iconst 1, 1) := by decide +kernel
theorem dX6_takesSign_21 : decode cX6_takesSign 21 = .ok (.ireturn, 1) := by decide +kernel
theorem dX6_readsNumber_0 : decode cX6_readsNumber 0 = .ok (.aload_n 0, 1) := by decide +kernel
theorem dX6_readsNumber_1 : decode cX6_readsNumber 1 = .ok (.invokevirtual 67, 3) := by decide +kernel
theorem dX6_readsNumber_4 : decode cX6_readsNumber 4 = .ok (.ifCond .ne 5, 3) := by decide +kernel
theorem dX6_readsNumber_7 : decode cX6_readsNumber 7 = .ok (.iconst 0, 1) := by decide +kernel
theorem dX6_readsNumber_8 : decode cX6_readsNumber 8 = .ok (.ireturn, 1) := by decide +kernel
theorem dX6_readsNumber_9 : decode cX6_readsNumber 9 = .ok (.aload_n 0, 1) := by decide +kernel
theorem dX6_readsNumber_10 : decode cX6_readsNumber 10 = .ok (.getfield 25, 3) := by decide +kernel
theorem dX6_readsNumber_13 : decode cX6_readsNumber 13 = .ok (.iload_n 1, 1) := by decide +kernel
theorem dX6_readsNumber_14 : decode cX6_readsNumber 14 = .ok (.iconst 0, 1) := by decide +kernel
theorem dX6_readsNumber_15 : decode cX6_readsNumber 15 = .ok (.iastore, 1) := by decide +kernel
theorem dX6_readsNumber_16 : decode cX6_readsNumber 16 = .ok (.iconst 0, 1) := by decide +kernel
theorem dX6_readsNumber_17 : decode cX6_readsNumber 17 = .ok (.istore_n 3, 1) := by decide +kernel
theorem dX6_readsNumber_18 : decode cX6_readsNumber 18 = .ok (.iload_n 3, 1) := by decide +kernel
theorem dX6_readsNumber_19 : decode cX6_readsNumber 19 = .ok (.iload_n 2, 1) := by decide +kernel
theorem dX6_readsNumber_20 : decode cX6_readsNumber 20 = .ok (.if_icmp .ge 49, 3) := by decide +kernel
theorem dX6_readsNumber_23 : decode cX6_readsNumber 23 = .ok (.aload_n 0, 1) := by decide +kernel
theorem dX6_readsNumber_24 : decode cX6_readsNumber 24 = .ok (.invokevirtual 67, 3) := by decide +kernel
theorem dX6_readsNumber_27 : decode cX6_readsNumber 27 = .ok (.ifCond .eq 42, 3) := by decide +kernel
theorem dX6_readsNumber_30 : decode cX6_readsNumber 30 = .ok (.aload_n 0, 1) := by decide +kernel
theorem dX6_readsNumber_31 : decode cX6_readsNumber 31 = .ok (.getfield 25, 3) := by decide +kernel
theorem dX6_readsNumber_34 : decode cX6_readsNumber 34 = .ok (.iload_n 1, 1) := by decide +kernel
theorem dX6_readsNumber_35 : decode cX6_readsNumber 35 = .ok (.bipush 10, 2) := by decide +kernel
theorem dX6_readsNumber_37 : decode cX6_readsNumber 37 = .ok (.aload_n 0, 1) := by decide +kernel
theorem dX6_readsNumber_38 : decode cX6_readsNumber 38 = .ok (.getfield 25, 3) := by decide +kernel
theorem dX6_readsNumber_41 : decode cX6_readsNumber 41 = .ok (.iload_n 1, 1) := by decide +kernel
theorem dX6_readsNumber_42 : decode cX6_readsNumber 42 = .ok (.iaload, 1) := by decide +kernel
theorem dX6_readsNumber_43 : decode cX6_readsNumber 43 = .ok (.imul, 1) := by decide +kernel
theorem dX6_readsNumber_44 : decode cX6_readsNumber 44 = .ok (.aload_n 0, 1) := by decide +kernel
theorem dX6_readsNumber_45 : decode cX6_readsNumber 45 = .ok (.invokevirtual 63, 3) := by decide +kernel
theorem dX6_readsNumber_48 : decode cX6_readsNumber 48 = .ok (.iadd, 1) := by decide +kernel
theorem dX6_readsNumber_49 : decode cX6_readsNumber 49 = .ok (.bipush 48, 2) := by decide +kernel
theorem dX6_readsNumber_51 : decode cX6_readsNumber 51 = .ok (.isub, 1) := by decide +kernel
theorem dX6_readsNumber_52 : decode cX6_readsNumber 52 = .ok (.iastore, 1) := by decide +kernel
theorem dX6_readsNumber_53 : decode cX6_readsNumber 53 = .ok (.aload_n 0, 1) := by decide +kernel
theorem dX6_readsNumber_54 : decode cX6_readsNumber 54 = .ok (.dup, 1) := by decide +kernel
theorem dX6_readsNumber_55 : decode cX6_readsNumber 55 = .ok (.getfield 60, 3) := by decide +kernel
theorem dX6_readsNumber_58 : decode cX6_readsNumber 58 = .ok (.iconst 1, 1) := by decide +kernel
theorem dX6_readsNumber_59 : decode cX6_readsNumber 59 = .ok (.iadd, 1) := by decide +kernel
theorem dX6_readsNumber_60 : decode cX6_readsNumber 60 = .ok (.putfield 60, 3) := by decide +kernel
theorem dX6_readsNumber_63 : decode cX6_readsNumber 63 = .ok (.iinc 3 1, 3) := by decide +kernel
theorem dX6_readsNumber_66 : decode cX6_readsNumber 66 = .ok (.goto (-48), 3) := by decide +kernel
theorem dX6_readsNumber_69 : decode cX6_readsNumber 69 = .ok (.iconst 1, 1) := by decide +kernel
theorem dX6_readsNumber_70 : decode cX6_readsNumber 70 = .ok (.ireturn, 1) := by decide +kernel
theorem dX6_readsStatement_0 : decode cX6_readsStatement 0 = .ok (.aload_n 0, 1) := by decide +kernel
theorem dX6_readsStatement_1 : decode cX6_readsStatement 1 = .ok (.invokevirtual 63, 3) := by decide +kernel
theorem dX6_readsStatement_4 : decode cX6_readsStatement 4 = .ok (.istore_n 1, 1) := by decide +kernel
theorem dX6_readsStatement_5 : decode cX6_readsStatement 5 = .ok (.iload_n 1, 1) := by decide +kernel
theorem dX6_readsStatement_6 : decode cX6_readsStatement 6 = .ok (.bipush 112, 2) := by decide +kernel
theorem dX6_readsStatement_8 : decode cX6_readsStatement 8 = .ok (.if_icmp .eq 17, 3) := by decide +kernel
theorem dX6_readsStatement_11 : decode cX6_readsStatement 11 = .ok (.iload_n 1, 1) := by decide +kernel
theorem dX6_readsStatement_12 : decode cX6_readsStatement 12 = .ok (.bipush 116, 2) := by decide +kernel
theorem dX6_readsStatement_14 : decode cX6_readsStatement 14 = .ok (.if_icmp .eq 11, 3) := by decide +kernel
theorem dX6_readsStatement_17 : decode cX6_readsStatement 17 = .ok (.iload_n 1, 1) := by decide +kernel
theorem dX6_readsStatement_18 : decode cX6_readsStatement 18 = .ok (.bipush 101, 2) := by decide +kernel
theorem dX6_readsStatement_20 : decode cX6_readsStatement 20 = .ok (.if_icmp .eq 5, 3) := by decide +kernel
theorem dX6_readsStatement_23 : decode cX6_readsStatement 23 = .ok (.iconst 0, 1) := by decide +kernel
theorem dX6_readsStatement_24 : decode cX6_readsStatement 24 = .ok (.ireturn, 1) := by decide +kernel
theorem dX6_readsStatement_25 : decode cX6_readsStatement 25 = .ok (.aload_n 0, 1) := by decide +kernel
theorem dX6_readsStatement_26 : decode cX6_readsStatement 26 = .ok (.dup, 1) := by decide +kernel
theorem dX6_readsStatement_27 : decode cX6_readsStatement 27 = .ok (.getfield 60, 3) := by decide +kernel
theorem dX6_readsStatement_30 : decode cX6_readsStatement 30 = .ok (.iconst 1, 1) := by decide +kernel
theorem dX6_readsStatement_31 : decode cX6_readsStatement 31 = .ok (.iadd, 1) := by decide +kernel
theorem dX6_readsStatement_32 : decode cX6_readsStatement 32 = .ok (.putfield 60, 3) := by decide +kernel
theorem dX6_readsStatement_35 : decode cX6_readsStatement 35 = .ok (.aload_n 0, 1) := by decide +kernel
theorem dX6_readsStatement_36 : decode cX6_readsStatement 36 = .ok (.iconst 0, 1) := by decide +kernel
theorem dX6_readsStatement_37 : decode cX6_readsStatement 37 = .ok (.iload_n 1, 1) := by decide +kernel
theorem dX6_readsStatement_38 : decode cX6_readsStatement 38 = .ok (.bipush 116, 2) := by decide +kernel
theorem dX6_readsStatement_40 : decode cX6_readsStatement 40 = .ok (.if_icmp .ne 7, 3) := by decide +kernel
theorem dX6_readsStatement_43 : decode cX6_readsStatement 43 = .ok (.iconst 3, 1) := by decide +kernel
theorem dX6_readsStatement_44 : decode cX6_readsStatement 44 = .ok (.goto 4, 3) := by decide +kernel
theorem dX6_readsStatement_47 : decode cX6_readsStatement 47 = .ok (.iconst 1, 1) := by decide +kernel
theorem dX6_readsStatement_48 : decode cX6_readsStatement 48 = .ok (.invokevirtual 71, 3) := by decide +kernel
theorem dX6_readsStatement_51 : decode cX6_readsStatement 51 = .ok (.ifCond .ne 5, 3) := by decide +kernel
theorem dX6_readsStatement_54 : decode cX6_readsStatement 54 = .ok (.iconst 0, 1) := by decide +kernel
theorem dX6_readsStatement_55 : decode cX6_readsStatement 55 = .ok (.ireturn, 1) := by decide +kernel
theorem dX6_readsStatement_56 : decode cX6_readsStatement 56 = .ok (.iload_n 1, 1) := by decide +kernel
theorem dX6_readsStatement_57 : decode cX6_readsStatement 57 = .ok (.bipush 116, 2) := by decide +kernel
theorem dX6_readsStatement_59 : decode cX6_readsStatement 59 = .ok (.if_icmp .ne 23, 3) := by decide +kernel
theorem dX6_readsStatement_62 : decode cX6_readsStatement 62 = .ok (.aload_n 0, 1) := by decide +kernel
theorem dX6_readsStatement_63 : decode cX6_readsStatement 63 = .ok (.bipush 44, 2) := by decide +kernel
theorem dX6_readsStatement_65 : decode cX6_readsStatement 65 = .ok (.invokevirtual 74, 3) := by decide +kernel
theorem dX6_readsStatement_68 : decode cX6_readsStatement 68 = .ok (.ifCond .eq 12, 3) := by decide +kernel
theorem dX6_readsStatement_71 : decode cX6_readsStatement 71 = .ok (.aload_n 0, 1) := by decide +kernel
theorem dX6_readsStatement_72 : decode cX6_readsStatement 72 = .ok (.iconst 1, 1) := by decide +kernel
theorem dX6_readsStatement_73 : decode cX6_readsStatement 73 = .ok (.iconst 3, 1) := by decide +kernel
theorem dX6_readsStatement_74 : decode cX6_readsStatement 74 = .ok (.invokevirtual 71, 3) := by decide +kernel
theorem dX6_readsStatement_77 : decode cX6_readsStatement 77 = .ok (.ifCond .ne 5, 3) := by decide +kernel
theorem dX6_readsStatement_80 : decode cX6_readsStatement 80 = .ok (.iconst 0, 1) := by decide +kernel
theorem dX6_readsStatement_81 : decode cX6_readsStatement 81 = .ok (.ireturn, 1) := by decide +kernel
theorem dX6_readsStatement_82 : decode cX6_readsStatement 82 = .ok (.iload_n 1, 1) := by decide +kernel
theorem dX6_readsStatement_83 : decode cX6_readsStatement 83 = .ok (.bipush 112, 2) := by decide +kernel
theorem dX6_readsStatement_85 : decode cX6_readsStatement 85 = .ok (.if_icmp .ne 53, 3) := by decide +kernel
theorem dX6_readsStatement_88 : decode cX6_readsStatement 88 = .ok (.aload_n 0, 1) := by decide +kernel
theorem dX6_readsStatement_89 : decode cX6_readsStatement 89 = .ok (.getfield 25, 3) := by decide +kernel
theorem dX6_readsStatement_92 : decode cX6_readsStatement 92 = .ok (.iconst 1, 1) := by decide +kernel
theorem dX6_readsStatement_93 : decode cX6_readsStatement 93 = .ok (.aload_n 0, 1) := by decide +kernel
theorem dX6_readsStatement_94 : decode cX6_readsStatement 94 = .ok (.invokevirtual 63, 3) := by decide +kernel
theorem dX6_readsStatement_97 : decode cX6_readsStatement 97 = .ok (.bipush 100, 2) := by decide +kernel
theorem dX6_readsStatement_99 : decode cX6_readsStatement 99 = .ok (.if_icmp .ne 7, 3) := by decide +kernel
theorem dX6_readsStatement_102 : decode cX6_readsStatement 102 = .ok (.iconst 1, 1) := by decide +kernel
theorem dX6_readsStatement_103 : decode cX6_readsStatement 103 = .ok (.goto 4, 3) := by decide +kernel
theorem dX6_readsStatement_106 : decode cX6_readsStatement 106 = .ok (.iconst 0, 1) := by decide +kernel
theorem dX6_readsStatement_107 : decode cX6_readsStatement 107 = .ok (.iastore, 1) := by decide +kernel
theorem dX6_readsStatement_108 : decode cX6_readsStatement 108 = .ok (.aload_n 0, 1) := by decide +kernel
theorem dX6_readsStatement_109 : decode cX6_readsStatement 109 = .ok (.invokevirtual 63, 3) := by decide +kernel
theorem dX6_readsStatement_112 : decode cX6_readsStatement 112 = .ok (.bipush 115, 2) := by decide +kernel
theorem dX6_readsStatement_114 : decode cX6_readsStatement 114 = .ok (.if_icmp .eq 14, 3) := by decide +kernel
theorem dX6_readsStatement_117 : decode cX6_readsStatement 117 = .ok (.aload_n 0, 1) := by decide +kernel
theorem dX6_readsStatement_118 : decode cX6_readsStatement 118 = .ok (.invokevirtual 63, 3) := by decide +kernel
theorem dX6_readsStatement_121 : decode cX6_readsStatement 121 = .ok (.bipush 100, 2) := by decide +kernel
theorem dX6_readsStatement_123 : decode cX6_readsStatement 123 = .ok (.if_icmp .eq 5, 3) := by decide +kernel
theorem dX6_readsStatement_126 : decode cX6_readsStatement 126 = .ok (.iconst 0, 1) := by decide +kernel
theorem dX6_readsStatement_127 : decode cX6_readsStatement 127 = .ok (.ireturn, 1) := by decide +kernel
theorem dX6_readsStatement_128 : decode cX6_readsStatement 128 = .ok (.aload_n 0, 1) := by decide +kernel
theorem dX6_readsStatement_129 : decode cX6_readsStatement 129 = .ok (.dup, 1) := by decide +kernel
theorem dX6_readsStatement_130 : decode cX6_readsStatement 130 = .ok (.getfield 60, 3) := by decide +kernel
theorem dX6_readsStatement_133 : decode cX6_readsStatement 133 = .ok (.iconst 1, 1) := by decide +kernel
theorem dX6_readsStatement_134 : decode cX6_readsStatement 134 = .ok (.iadd, 1) := by decide +kernel
theorem dX6_readsStatement_135 : decode cX6_readsStatement 135 = .ok (.putfield 60, 3) := by decide +kernel
theorem dX6_readsStatement_138 : decode cX6_readsStatement 138 = .ok (.aload_n 0, 1) := by decide +kernel
theorem dX6_readsStatement_139 : decode cX6_readsStatement 139 = .ok (.bipush 59, 2) := by decide +kernel
theorem dX6_readsStatement_141 : decode cX6_readsStatement 141 = .ok (.invokevirtual 74, 3) := by decide +kernel
theorem dX6_readsStatement_144 : decode cX6_readsStatement 144 = .ok (.ireturn, 1) := by decide +kernel
theorem dX6_comes_0 : decode cX6_comes 0 = .ok (.iload_n 1, 1) := by decide +kernel
theorem dX6_comes_1 : decode cX6_comes 1 = .ok (.bipush 101, 2) := by decide +kernel
theorem dX6_comes_3 : decode cX6_comes 3 = .ok (.if_icmp .ne 31, 3) := by decide +kernel
theorem dX6_comes_6 : decode cX6_comes 6 = .ok (.aload_n 0, 1) := by decide +kernel
theorem dX6_comes_7 : decode cX6_comes 7 = .ok (.getfield 19, 3) := by decide +kernel
theorem dX6_comes_10 : decode cX6_comes 10 = .ok (.iconst 2, 1) := by decide +kernel
theorem dX6_comes_11 : decode cX6_comes 11 = .ok (.aload_n 0, 1) := by decide +kernel
theorem dX6_comes_12 : decode cX6_comes 12 = .ok (.getfield 25, 3) := by decide +kernel
theorem dX6_comes_15 : decode cX6_comes 15 = .ok (.iconst 0, 1) := by decide +kernel
theorem dX6_comes_16 : decode cX6_comes 16 = .ok (.iaload, 1) := by decide +kernel
theorem dX6_comes_17 : decode cX6_comes 17 = .ok (.iastore, 1) := by decide +kernel
theorem dX6_comes_18 : decode cX6_comes 18 = .ok (.aload_n 0, 1) := by decide +kernel
theorem dX6_comes_19 : decode cX6_comes 19 = .ok (.getfield 25, 3) := by decide +kernel
theorem dX6_comes_22 : decode cX6_comes 22 = .ok (.iconst 0, 1) := by decide +kernel
theorem dX6_comes_23 : decode cX6_comes 23 = .ok (.iaload, 1) := by decide +kernel
theorem dX6_comes_24 : decode cX6_comes 24 = .ok (.iconst 4, 1) := by decide +kernel
theorem dX6_comes_25 : decode cX6_comes 25 = .ok (.if_icmp .gt 7, 3) := by decide +kernel
theorem dX6_comes_28 : decode cX6_comes 28 = .ok (.iconst 1, 1) := by decide +kernel
theorem dX6_comes_29 : decode cX6_comes 29 = .ok (.goto 4, 3) := by decide +kernel
theorem dX6_comes_32 : decode cX6_comes 32 = .ok (.iconst 0, 1) := by decide +kernel
theorem dX6_comes_33 : decode cX6_comes 33 = .ok (.ireturn, 1) := by decide +kernel
theorem dX6_comes_34 : decode cX6_comes 34 = .ok (.iload_n 1, 1) := by decide +kernel
theorem dX6_comes_35 : decode cX6_comes 35 = .ok (.bipush 112, 2) := by decide +kernel
theorem dX6_comes_37 : decode cX6_comes 37 = .ok (.if_icmp .ne 7, 3) := by decide +kernel
theorem dX6_comes_40 : decode cX6_comes 40 = .ok (.iconst 0, 1) := by decide +kernel
theorem dX6_comes_41 : decode cX6_comes 41 = .ok (.goto 4, 3) := by decide +kernel
theorem dX6_comes_44 : decode cX6_comes 44 = .ok (.iconst 1, 1) := by decide +kernel
theorem dX6_comes_45 : decode cX6_comes 45 = .ok (.istore_n 2, 1) := by decide +kernel
theorem dX6_comes_46 : decode cX6_comes 46 = .ok (.iload_n 1, 1) := by decide +kernel
theorem dX6_comes_47 : decode cX6_comes 47 = .ok (.bipush 112, 2) := by decide +kernel
theorem dX6_comes_49 : decode cX6_comes 49 = .ok (.if_icmp .ne 8, 3) := by decide +kernel
theorem dX6_comes_52 : decode cX6_comes 52 = .ok (.bipush 13, 2) := by decide +kernel
theorem dX6_comes_54 : decode cX6_comes 54 = .ok (.goto 5, 3) := by decide +kernel
theorem dX6_comes_57 : decode cX6_comes 57 = .ok (.bipush 23, 2) := by decide +kernel
theorem dX6_comes_59 : decode cX6_comes 59 = .ok (.iconst 2, 1) := by decide +kernel
theorem dX6_comes_60 : decode cX6_comes 60 = .ok (.aload_n 0, 1) := by decide +kernel
theorem dX6_comes_61 : decode cX6_comes 61 = .ok (.getfield 19, 3) := by decide +kernel
theorem dX6_comes_64 : decode cX6_comes 64 = .ok (.iload_n 2, 1) := by decide +kernel
theorem dX6_comes_65 : decode cX6_comes 65 = .ok (.iaload, 1) := by decide +kernel
theorem dX6_comes_66 : decode cX6_comes 66 = .ok (.imul, 1) := by decide +kernel
theorem dX6_comes_67 : decode cX6_comes 67 = .ok (.iadd, 1) := by decide +kernel
theorem dX6_comes_68 : decode cX6_comes 68 = .ok (.istore_n 3, 1) := by decide +kernel
theorem dX6_comes_69 : decode cX6_comes 69 = .ok (.iload_n 1, 1) := by decide +kernel
theorem dX6_comes_70 : decode cX6_comes 70 = .ok (.bipush 112, 2) := by decide +kernel
theorem dX6_comes_72 : decode cX6_comes 72 = .ok (.if_icmp .ne 30, 3) := by decide +kernel
theorem dX6_comes_75 : decode cX6_comes 75 = .ok (.aload_n 0, 1) := by decide +kernel
theorem dX6_comes_76 : decode cX6_comes 76 = .ok (.getfield 25, 3) := by decide +kernel
theorem dX6_comes_79 : decode cX6_comes 79 = .ok (.iconst 0, 1) := by decide +kernel
theorem dX6_comes_80 : decode cX6_comes 80 = .ok (.iaload, 1) := by decide +kernel
theorem dX6_comes_81 : decode cX6_comes 81 = .ok (.ifCond .le 17, 3) := by decide +kernel
theorem dX6_comes_84 : decode cX6_comes 84 = .ok (.aload_n 0, 1) := by decide +kernel
theorem dX6_comes_85 : decode cX6_comes 85 = .ok (.getfield 19, 3) := by decide +kernel
theorem dX6_comes_88 : decode cX6_comes 88 = .ok (.iconst 0, 1) := by decide +kernel
theorem dX6_comes_89 : decode cX6_comes 89 = .ok (.iaload, 1) := by decide +kernel
theorem dX6_comes_90 : decode cX6_comes 90 = .ok (.iconst 5, 1) := by decide +kernel
theorem dX6_comes_91 : decode cX6_comes 91 = .ok (.if_icmp .ge 7, 3) := by decide +kernel
theorem dX6_comes_94 : decode cX6_comes 94 = .ok (.iconst 1, 1) := by decide +kernel
theorem dX6_comes_95 : decode cX6_comes 95 = .ok (.goto 44, 3) := by decide +kernel
theorem dX6_comes_98 : decode cX6_comes 98 = .ok (.iconst 0, 1) := by decide +kernel
theorem dX6_comes_99 : decode cX6_comes 99 = .ok (.goto 40, 3) := by decide +kernel
theorem dX6_comes_102 : decode cX6_comes 102 = .ok (.aload_n 0, 1) := by decide +kernel
theorem dX6_comes_103 : decode cX6_comes 103 = .ok (.getfield 25, 3) := by decide +kernel
theorem dX6_comes_106 : decode cX6_comes 106 = .ok (.iconst 0, 1) := by decide +kernel
theorem dX6_comes_107 : decode cX6_comes 107 = .ok (.iaload, 1) := by decide +kernel
theorem dX6_comes_108 : decode cX6_comes 108 = .ok (.sipush 600, 3) := by decide +kernel
theorem dX6_comes_111 : decode cX6_comes 111 = .ok (.if_icmp .gt 27, 3) := by decide +kernel
theorem dX6_comes_114 : decode cX6_comes 114 = .ok (.aload_n 0, 1) := by decide +kernel
theorem dX6_comes_115 : decode cX6_comes 115 = .ok (.getfield 25, 3) := by decide +kernel
theorem dX6_comes_118 : decode cX6_comes 118 = .ok (.iconst 1, 1) := by decide +kernel
theorem dX6_comes_119 : decode cX6_comes 119 = .ok (.iaload, 1) := by decide +kernel
theorem dX6_comes_120 : decode cX6_comes 120 = .ok (.ifCond .le 18, 3) := by decide +kernel
theorem dX6_comes_123 : decode cX6_comes 123 = .ok (.aload_n 0, 1) := by decide +kernel
theorem dX6_comes_124 : decode cX6_comes 124 = .ok (.getfield 19, 3) := by decide +kernel
theorem dX6_comes_127 : decode cX6_comes 127 = .ok (.iconst 1, 1) := by decide +kernel
theorem dX6_comes_128 : decode cX6_comes 128 = .ok (.iaload, 1) := by decide +kernel
theorem dX6_comes_129 : decode cX6_comes 129 = .ok (.bipush 8, 2) := by decide +kernel
theorem dX6_comes_131 : decode cX6_comes 131 = .ok (.if_icmp .ge 7, 3) := by decide +kernel
theorem dX6_comes_134 : decode cX6_comes 134 = .ok (.iconst 1, 1) := by decide +kernel
theorem dX6_comes_135 : decode cX6_comes 135 = .ok (.goto 4, 3) := by decide +kernel
theorem dX6_comes_138 : decode cX6_comes 138 = .ok (.iconst 0, 1) := by decide +kernel
theorem dX6_comes_139 : decode cX6_comes 139 = .ok (.istore 4, 2) := by decide +kernel
theorem dX6_comes_141 : decode cX6_comes 141 = .ok (.iload 4, 2) := by decide +kernel
theorem dX6_comes_143 : decode cX6_comes 143 = .ok (.ifCond .ne 5, 3) := by decide +kernel
theorem dX6_comes_146 : decode cX6_comes 146 = .ok (.iconst 0, 1) := by decide +kernel
theorem dX6_comes_147 : decode cX6_comes 147 = .ok (.ireturn, 1) := by decide +kernel
theorem dX6_comes_148 : decode cX6_comes 148 = .ok (.aload_n 0, 1) := by decide +kernel
theorem dX6_comes_149 : decode cX6_comes 149 = .ok (.getfield 19, 3) := by decide +kernel
theorem dX6_comes_152 : decode cX6_comes 152 = .ok (.iload_n 3, 1) := by decide +kernel
theorem dX6_comes_153 : decode cX6_comes 153 = .ok (.aload_n 0, 1) := by decide +kernel
theorem dX6_comes_154 : decode cX6_comes 154 = .ok (.getfield 25, 3) := by decide +kernel
theorem dX6_comes_157 : decode cX6_comes 157 = .ok (.iconst 0, 1) := by decide +kernel
theorem dX6_comes_158 : decode cX6_comes 158 = .ok (.iaload, 1) := by decide +kernel
theorem dX6_comes_159 : decode cX6_comes 159 = .ok (.iastore, 1) := by decide +kernel
theorem dX6_comes_160 : decode cX6_comes 160 = .ok (.aload_n 0, 1) := by decide +kernel
theorem dX6_comes_161 : decode cX6_comes 161 = .ok (.getfield 19, 3) := by decide +kernel
theorem dX6_comes_164 : decode cX6_comes 164 = .ok (.iload_n 3, 1) := by decide +kernel
theorem dX6_comes_165 : decode cX6_comes 165 = .ok (.iconst 1, 1) := by decide +kernel
theorem dX6_comes_166 : decode cX6_comes 166 = .ok (.iadd, 1) := by decide +kernel
theorem dX6_comes_167 : decode cX6_comes 167 = .ok (.aload_n 0, 1) := by decide +kernel
theorem dX6_comes_168 : decode cX6_comes 168 = .ok (.getfield 25, 3) := by decide +kernel
theorem dX6_comes_171 : decode cX6_comes 171 = .ok (.iconst 1, 1) := by decide +kernel
theorem dX6_comes_172 : decode cX6_comes 172 = .ok (.iaload, 1) := by decide +kernel
theorem dX6_comes_173 : decode cX6_comes 173 = .ok (.iastore, 1) := by decide +kernel
theorem dX6_comes_174 : decode cX6_comes 174 = .ok (.aload_n 0, 1) := by decide +kernel
theorem dX6_comes_175 : decode cX6_comes 175 = .ok (.getfield 19, 3) := by decide +kernel
theorem dX6_comes_178 : decode cX6_comes 178 = .ok (.iload_n 2, 1) := by decide +kernel
theorem dX6_comes_179 : decode cX6_comes 179 = .ok (.dup2, 1) := by decide +kernel
theorem dX6_comes_180 : decode cX6_comes 180 = .ok (.iaload, 1) := by decide +kernel
theorem dX6_comes_181 : decode cX6_comes 181 = .ok (.iconst 1, 1) := by decide +kernel
theorem dX6_comes_182 : decode cX6_comes 182 = .ok (.iadd, 1) := by decide +kernel
theorem dX6_comes_183 : decode cX6_comes 183 = .ok (.iastore, 1) := by decide +kernel
theorem dX6_comes_184 : decode cX6_comes 184 = .ok (.iconst 1, 1) := by decide +kernel
theorem dX6_comes_185 : decode cX6_comes 185 = .ok (.ireturn, 1) := by decide +kernel
theorem dX6_reads_0 : decode cX6_reads 0 = .ok (.aload_n 0, 1) := by decide +kernel
theorem dX6_reads_1 : decode cX6_reads 1 = .ok (.iconst 0, 1) := by decide +kernel
theorem dX6_reads_2 : decode cX6_reads 2 = .ok (.putfield 60, 3) := by decide +kernel
theorem dX6_reads_5 : decode cX6_reads 5 = .ok (.iconst 0, 1) := by decide +kernel
theorem dX6_reads_6 : decode cX6_reads 6 = .ok (.istore_n 1, 1) := by decide +kernel
theorem dX6_reads_7 : decode cX6_reads 7 = .ok (.aload_n 0, 1) := by decide +kernel
theorem dX6_reads_8 : decode cX6_reads 8 = .ok (.invokevirtual 78, 3) := by decide +kernel
theorem dX6_reads_11 : decode cX6_reads 11 = .ok (.ifCond .ne 12, 3) := by decide +kernel
theorem dX6_reads_14 : decode cX6_reads 14 = .ok (.sipush (-1000), 3) := by decide +kernel
theorem dX6_reads_17 : decode cX6_reads 17 = .ok (.aload_n 0, 1) := by decide +kernel
theorem dX6_reads_18 : decode cX6_reads 18 = .ok (.getfield 60, 3) := by decide +kernel
theorem dX6_reads_21 : decode cX6_reads 21 = .ok (.isub, 1) := by decide +kernel
theorem dX6_reads_22 : decode cX6_reads 22 = .ok (.ireturn, 1) := by decide +kernel
theorem dX6_reads_23 : decode cX6_reads 23 = .ok (.iinc 1 1, 3) := by decide +kernel
theorem dX6_reads_26 : decode cX6_reads 26 = .ok (.aload_n 0, 1) := by decide +kernel
theorem dX6_reads_27 : decode cX6_reads 27 = .ok (.getfield 60, 3) := by decide +kernel
theorem dX6_reads_30 : decode cX6_reads 30 = .ok (.aload_n 0, 1) := by decide +kernel
theorem dX6_reads_31 : decode cX6_reads 31 = .ok (.getfield 54, 3) := by decide +kernel
theorem dX6_reads_34 : decode cX6_reads 34 = .ok (.if_icmp .lt (-27), 3) := by decide +kernel
theorem dX6_reads_37 : decode cX6_reads 37 = .ok (.iconst 0, 1) := by decide +kernel
theorem dX6_reads_38 : decode cX6_reads 38 = .ok (.istore_n 2, 1) := by decide +kernel
theorem dX6_reads_39 : decode cX6_reads 39 = .ok (.iload_n 2, 1) := by decide +kernel
theorem dX6_reads_40 : decode cX6_reads 40 = .ok (.bipush 47, 2) := by decide +kernel
theorem dX6_reads_42 : decode cX6_reads 42 = .ok (.if_icmp .ge 21, 3) := by decide +kernel
theorem dX6_reads_45 : decode cX6_reads 45 = .ok (.aload_n 0, 1) := by decide +kernel
theorem dX6_reads_46 : decode cX6_reads 46 = .ok (.getfield 19, 3) := by decide +kernel
theorem dX6_reads_49 : decode cX6_reads 49 = .ok (.iload_n 2, 1) := by decide +kernel
theorem dX6_reads_50 : decode cX6_reads 50 = .ok (.aload_n 0, 1) := by decide +kernel
theorem dX6_reads_51 : decode cX6_reads 51 = .ok (.getfield 13, 3) := by decide +kernel
theorem dX6_reads_54 : decode cX6_reads 54 = .ok (.iload_n 2, 1) := by decide +kernel
theorem dX6_reads_55 : decode cX6_reads 55 = .ok (.iaload, 1) := by decide +kernel
theorem dX6_reads_56 : decode cX6_reads 56 = .ok (.iastore, 1) := by decide +kernel
theorem dX6_reads_57 : decode cX6_reads 57 = .ok (.iinc 2 1, 3) := by decide +kernel
theorem dX6_reads_60 : decode cX6_reads 60 = .ok (.goto (-21), 3) := by decide +kernel
theorem dX6_reads_63 : decode cX6_reads 63 = .ok (.aload_n 0, 1) := by decide +kernel
theorem dX6_reads_64 : decode cX6_reads 64 = .ok (.iconst 0, 1) := by decide +kernel
theorem dX6_reads_65 : decode cX6_reads 65 = .ok (.putfield 60, 3) := by decide +kernel
theorem dX6_reads_68 : decode cX6_reads 68 = .ok (.aload_n 0, 1) := by decide +kernel
theorem dX6_reads_69 : decode cX6_reads 69 = .ok (.getfield 60, 3) := by decide +kernel
theorem dX6_reads_72 : decode cX6_reads 72 = .ok (.aload_n 0, 1) := by decide +kernel
theorem dX6_reads_73 : decode cX6_reads 73 = .ok (.getfield 54, 3) := by decide +kernel
theorem dX6_reads_76 : decode cX6_reads 76 = .ok (.if_icmp .ge 36, 3) := by decide +kernel
theorem dX6_reads_79 : decode cX6_reads 79 = .ok (.aload_n 0, 1) := by decide +kernel
theorem dX6_reads_80 : decode cX6_reads 80 = .ok (.getfield 60, 3) := by decide +kernel
theorem dX6_reads_83 : decode cX6_reads 83 = .ok (.istore_n 2, 1) := by decide +kernel
theorem dX6_reads_84 : decode cX6_reads 84 = .ok (.aload_n 0, 1) := by decide +kernel
theorem dX6_reads_85 : decode cX6_reads 85 = .ok (.invokevirtual 63, 3) := by decide +kernel
theorem dX6_reads_88 : decode cX6_reads 88 = .ok (.istore_n 3, 1) := by decide +kernel
theorem dX6_reads_89 : decode cX6_reads 89 = .ok (.aload_n 0, 1) := by decide +kernel
theorem dX6_reads_90 : decode cX6_reads 90 = .ok (.invokevirtual 78, 3) := by decide +kernel
theorem dX6_reads_93 : decode cX6_reads 93 = .ok (.istore 4, 2) := by decide +kernel
theorem dX6_reads_95 : decode cX6_reads 95 = .ok (.aload_n 0, 1) := by decide +kernel
theorem dX6_reads_96 : decode cX6_reads 96 = .ok (.iload_n 3, 1) := by decide +kernel
theorem dX6_reads_97 : decode cX6_reads 97 = .ok (.invokevirtual 81, 3) := by decide +kernel
theorem dX6_reads_100 : decode cX6_reads 100 = .ok (.ifCond .ne 9, 3) := by decide +kernel
theorem dX6_reads_103 : decode cX6_reads 103 = .ok (.sipush (-2000), 3) := by decide +kernel
theorem dX6_reads_106 : decode cX6_reads 106 = .ok (.iload_n 2, 1) := by decide +kernel
theorem dX6_reads_107 : decode cX6_reads 107 = .ok (.isub, 1) := by decide +kernel
theorem dX6_reads_108 : decode cX6_reads 108 = .ok (.ireturn, 1) := by decide +kernel
theorem dX6_reads_109 : decode cX6_reads 109 = .ok (.goto (-41), 3) := by decide +kernel
theorem dX6_reads_112 : decode cX6_reads 112 = .ok (.iconst 0, 1) := by decide +kernel
theorem dX6_reads_113 : decode cX6_reads 113 = .ok (.istore_n 2, 1) := by decide +kernel
theorem dX6_reads_114 : decode cX6_reads 114 = .ok (.iload_n 2, 1) := by decide +kernel
theorem dX6_reads_115 : decode cX6_reads 115 = .ok (.bipush 47, 2) := by decide +kernel
theorem dX6_reads_117 : decode cX6_reads 117 = .ok (.if_icmp .ge 21, 3) := by decide +kernel
theorem dX6_reads_120 : decode cX6_reads 120 = .ok (.aload_n 0, 1) := by decide +kernel
theorem dX6_reads_121 : decode cX6_reads 121 = .ok (.getfield 13, 3) := by decide +kernel
theorem dX6_reads_124 : decode cX6_reads 124 = .ok (.iload_n 2, 1) := by decide +kernel
theorem dX6_reads_125 : decode cX6_reads 125 = .ok (.aload_n 0, 1) := by decide +kernel
theorem dX6_reads_126 : decode cX6_reads 126 = .ok (.getfield 19, 3) := by decide +kernel
theorem dX6_reads_129 : decode cX6_reads 129 = .ok (.iload_n 2, 1) := by decide +kernel
theorem dX6_reads_130 : decode cX6_reads 130 = .ok (.iaload, 1) := by decide +kernel
theorem dX6_reads_131 : decode cX6_reads 131 = .ok (.iastore, 1) := by decide +kernel
theorem dX6_reads_132 : decode cX6_reads 132 = .ok (.iinc 2 1, 3) := by decide +kernel
theorem dX6_reads_135 : decode cX6_reads 135 = .ok (.goto (-21), 3) := by decide +kernel
theorem dX6_reads_138 : decode cX6_reads 138 = .ok (.iload_n 1, 1) := by decide +kernel
theorem dX6_reads_139 : decode cX6_reads 139 = .ok (.ireturn, 1) := by decide +kernel
theorem dX6_line_0 : decode cX6_line 0 = .ok (.aload_n 0, 1) := by decide +kernel
theorem dX6_line_1 : decode cX6_line 1 = .ok (.invokevirtual 84, 3) := by decide +kernel
theorem dX6_line_4 : decode cX6_line 4 = .ok (.istore_n 1, 1) := by decide +kernel
theorem dX6_line_5 : decode cX6_line 5 = .ok (.aload_n 0, 1) := by decide +kernel
theorem dX6_line_6 : decode cX6_line 6 = .ok (.iconst 0, 1) := by decide +kernel
theorem dX6_line_7 : decode cX6_line 7 = .ok (.putfield 54, 3) := by decide +kernel
theorem dX6_line_10 : decode cX6_line 10 = .ok (.iload_n 1, 1) := by decide +kernel
theorem dX6_line_11 : decode cX6_line 11 = .ok (.ireturn, 1) := by decide +kernel
theorem dX6_piece_0 : decode cX6_piece 0 = .ok (.aload_n 0, 1) := by decide +kernel
theorem dX6_piece_1 : decode cX6_piece 1 = .ok (.iload_n 1, 1) := by decide +kernel
theorem dX6_piece_2 : decode cX6_piece 2 = .ok (.invokevirtual 87, 3) := by decide +kernel
theorem dX6_piece_5 : decode cX6_piece 5 = .ok (.ifCond .ne 11, 3) := by decide +kernel
theorem dX6_piece_8 : decode cX6_piece 8 = .ok (.aload_n 0, 1) := by decide +kernel
theorem dX6_piece_9 : decode cX6_piece 9 = .ok (.iconst (-1), 1) := by decide +kernel
theorem dX6_piece_10 : decode cX6_piece 10 = .ok (.invokevirtual 50, 3) := by decide +kernel
theorem dX6_piece_13 : decode cX6_piece 13 = .ok (.goto 33, 3) := by decide +kernel
theorem dX6_piece_16 : decode cX6_piece 16 = .ok (.iload_n 2, 1) := by decide +kernel
theorem dX6_piece_17 : decode cX6_piece 17 = .ok (.iconst 2, 1) := by decide +kernel
theorem dX6_piece_18 : decode cX6_piece 18 = .ok (.invokestatic 46, 3) := by decide +kernel
theorem dX6_piece_21 : decode cX6_piece 21 = .ok (.ifCond .eq 19, 3) := by decide +kernel
theorem dX6_piece_24 : decode cX6_piece 24 = .ok (.aload_n 0, 1) := by decide +kernel
theorem dX6_piece_25 : decode cX6_piece 25 = .ok (.getfield 13, 3) := by decide +kernel
theorem dX6_piece_28 : decode cX6_piece 28 = .ok (.bipush 13, 2) := by decide +kernel
theorem dX6_piece_30 : decode cX6_piece 30 = .ok (.iconst 2, 1) := by decide +kernel
theorem dX6_piece_31 : decode cX6_piece 31 = .ok (.iload_n 1, 1) := by decide +kernel
theorem dX6_piece_32 : decode cX6_piece 32 = .ok (.imul, 1) := by decide +kernel
theorem dX6_piece_33 : decode cX6_piece 33 = .ok (.iadd, 1) := by decide +kernel
theorem dX6_piece_34 : decode cX6_piece 34 = .ok (.iload_n 2, 1) := by decide +kernel
theorem dX6_piece_35 : decode cX6_piece 35 = .ok (.iadd, 1) := by decide +kernel
theorem dX6_piece_36 : decode cX6_piece 36 = .ok (.iaload, 1) := by decide +kernel
theorem dX6_piece_37 : decode cX6_piece 37 = .ok (.goto 9, 3) := by decide +kernel
theorem dX6_piece_40 : decode cX6_piece 40 = .ok (.aload_n 0, 1) := by decide +kernel
theorem dX6_piece_41 : decode cX6_piece 41 = .ok (.bipush (-2), 2) := by decide +kernel
theorem dX6_piece_43 : decode cX6_piece 43 = .ok (.invokevirtual 50, 3) := by decide +kernel
theorem dX6_piece_46 : decode cX6_piece 46 = .ok (.ireturn, 1) := by decide +kernel
theorem dX6_train_0 : decode cX6_train 0 = .ok (.aload_n 0, 1) := by decide +kernel
theorem dX6_train_1 : decode cX6_train 1 = .ok (.iload_n 1, 1) := by decide +kernel
theorem dX6_train_2 : decode cX6_train 2 = .ok (.invokevirtual 90, 3) := by decide +kernel
theorem dX6_train_5 : decode cX6_train 5 = .ok (.ifCond .ne 11, 3) := by decide +kernel
theorem dX6_train_8 : decode cX6_train 8 = .ok (.aload_n 0, 1) := by decide +kernel
theorem dX6_train_9 : decode cX6_train 9 = .ok (.iconst (-1), 1) := by decide +kernel
theorem dX6_train_10 : decode cX6_train 10 = .ok (.invokevirtual 50, 3) := by decide +kernel
theorem dX6_train_13 : decode cX6_train 13 = .ok (.goto 33, 3) := by decide +kernel
theorem dX6_train_16 : decode cX6_train 16 = .ok (.iload_n 2, 1) := by decide +kernel
theorem dX6_train_17 : decode cX6_train 17 = .ok (.iconst 2, 1) := by decide +kernel
theorem dX6_train_18 : decode cX6_train 18 = .ok (.invokestatic 46, 3) := by decide +kernel
theorem dX6_train_21 : decode cX6_train 21 = .ok (.ifCond .eq 19, 3) := by decide +kernel
theorem dX6_train_24 : decode cX6_train 24 = .ok (.aload_n 0, 1) := by decide +kernel
theorem dX6_train_25 : decode cX6_train 25 = .ok (.getfield 13, 3) := by decide +kernel
theorem dX6_train_28 : decode cX6_train 28 = .ok (.bipush 23, 2) := by decide +kernel
theorem dX6_train_30 : decode cX6_train 30 = .ok (.iconst 2, 1) := by decide +kernel
theorem dX6_train_31 : decode cX6_train 31 = .ok (.iload_n 1, 1) := by decide +kernel
theorem dX6_train_32 : decode cX6_train 32 = .ok (.imul, 1) := by decide +kernel
theorem dX6_train_33 : decode cX6_train 33 = .ok (.iadd, 1) := by decide +kernel
theorem dX6_train_34 : decode cX6_train 34 = .ok (.iload_n 2, 1) := by decide +kernel
theorem dX6_train_35 : decode cX6_train 35 = .ok (.iadd, 1) := by decide +kernel
theorem dX6_train_36 : decode cX6_train 36 = .ok (.iaload, 1) := by decide +kernel
theorem dX6_train_37 : decode cX6_train 37 = .ok (.goto 9, 3) := by decide +kernel
theorem dX6_train_40 : decode cX6_train 40 = .ok (.aload_n 0, 1) := by decide +kernel
theorem dX6_train_41 : decode cX6_train 41 = .ok (.bipush (-2), 2) := by decide +kernel
theorem dX6_train_43 : decode cX6_train 43 = .ok (.invokevirtual 50, 3) := by decide +kernel
theorem dX6_train_46 : decode cX6_train 46 = .ok (.ireturn, 1) := by decide +kernel
theorem dX6_least_0 : decode cX6_least 0 = .ok (.iload_n 0, 1) := by decide +kernel
theorem dX6_least_1 : decode cX6_least 1 = .ok (.iconst 2, 1) := by decide +kernel
theorem dX6_least_2 : decode cX6_least 2 = .ok (.if_icmp .lt 8, 3) := by decide +kernel
theorem dX6_least_5 : decode cX6_least 5 = .ok (.iload_n 0, 1) := by decide +kernel
theorem dX6_least_6 : decode cX6_least 6 = .ok (.iconst 5, 1) := by decide +kernel
theorem dX6_least_7 : decode cX6_least 7 = .ok (.if_icmp .ne 7, 3) := by decide +kernel
theorem dX6_least_10 : decode cX6_least 10 = .ok (.iconst 1, 1) := by decide +kernel
theorem dX6_least_11 : decode cX6_least 11 = .ok (.goto 4, 3) := by decide +kernel
theorem dX6_least_14 : decode cX6_least 14 = .ok (.iconst 0, 1) := by decide +kernel
theorem dX6_least_15 : decode cX6_least 15 = .ok (.ireturn, 1) := by decide +kernel
theorem dX6_most_0 : decode cX6_most 0 = .ok (.iload_n 0, 1) := by decide +kernel
theorem dX6_most_1 : decode cX6_most 1 = .ok (.tableswitch 62 0 7 #[47, 47, 51, 54, 54, 57, 62, 60], 47) := by decide +kernel
theorem dX6_most_48 : decode cX6_most 48 = .ok (.sipush 999, 3) := by decide +kernel
theorem dX6_most_51 : decode cX6_most 51 = .ok (.ireturn, 1) := by decide +kernel
theorem dX6_most_52 : decode cX6_most 52 = .ok (.bipush 90, 2) := by decide +kernel
theorem dX6_most_54 : decode cX6_most 54 = .ok (.ireturn, 1) := by decide +kernel
theorem dX6_most_55 : decode cX6_most 55 = .ok (.bipush 20, 2) := by decide +kernel
theorem dX6_most_57 : decode cX6_most 57 = .ok (.ireturn, 1) := by decide +kernel
theorem dX6_most_58 : decode cX6_most 58 = .ok (.bipush 60, 2) := by decide +kernel
theorem dX6_most_60 : decode cX6_most 60 = .ok (.ireturn, 1) := by decide +kernel
theorem dX6_most_61 : decode cX6_most 61 = .ok (.iconst 3, 1) := by decide +kernel
theorem dX6_most_62 : decode cX6_most 62 = .ok (.ireturn, 1) := by decide +kernel
theorem dX6_most_63 : decode cX6_most 63 = .ok (.iconst 1, 1) := by decide +kernel
theorem dX6_most_64 : decode cX6_most 64 = .ok (.ireturn, 1) := by decide +kernel
theorem dX6_set_0 : decode cX6_set 0 = .ok (.iload_n 1, 1) := by decide +kernel
theorem dX6_set_1 : decode cX6_set 1 = .ok (.bipush 9, 2) := by decide +kernel
theorem dX6_set_3 : decode cX6_set 3 = .ok (.invokestatic 46, 3) := by decide +kernel
theorem dX6_set_6 : decode cX6_set 6 = .ok (.ifCond .ne 10, 3) := by decide +kernel
theorem dX6_set_9 : decode cX6_set 9 = .ok (.aload_n 0, 1) := by decide +kernel
theorem dX6_set_10 : decode cX6_set 10 = .ok (.bipush (-2), 2) := by decide +kernel
theorem dX6_set_12 : decode cX6_set 12 = .ok (.invokevirtual 50, 3) := by decide +kernel
theorem dX6_set_15 : decode cX6_set 15 = .ok (.ireturn, 1) := by decide +kernel
theorem dX6_set_16 : decode cX6_set 16 = .ok (.iload_n 2, 1) := by decide +kernel
theorem dX6_set_17 : decode cX6_set 17 = .ok (.iload_n 1, 1) := by decide +kernel
theorem dX6_set_18 : decode cX6_set 18 = .ok (.invokestatic 93, 3) := by decide +kernel
theorem dX6_set_21 : decode cX6_set 21 = .ok (.iload_n 1, 1) := by decide +kernel
theorem dX6_set_22 : decode cX6_set 22 = .ok (.invokestatic 96, 3) := by decide +kernel
theorem dX6_set_25 : decode cX6_set 25 = .ok (.invokestatic 99, 3) := by decide +kernel
theorem dX6_set_28 : decode cX6_set 28 = .ok (.istore_n 3, 1) := by decide +kernel
theorem dX6_set_29 : decode cX6_set 29 = .ok (.iload_n 3, 1) := by decide +kernel
theorem dX6_set_30 : decode cX6_set 30 = .ok (.ifCond .eq 9, 3) := by decide +kernel
theorem dX6_set_33 : decode cX6_set 33 = .ok (.aload_n 0, 1) := by decide +kernel
theorem dX6_set_34 : decode cX6_set 34 = .ok (.iload_n 3, 1) := by decide +kernel
theorem dX6_set_35 : decode cX6_set 35 = .ok (.invokevirtual 50, 3) := by decide +kernel
theorem dX6_set_38 : decode cX6_set 38 = .ok (.ireturn, 1) := by decide +kernel
theorem dX6_set_39 : decode cX6_set 39 = .ok (.aload_n 0, 1) := by decide +kernel
theorem dX6_set_40 : decode cX6_set 40 = .ok (.getfield 13, 3) := by decide +kernel
theorem dX6_set_43 : decode cX6_set 43 = .ok (.iconst 4, 1) := by decide +kernel
theorem dX6_set_44 : decode cX6_set 44 = .ok (.iload_n 1, 1) := by decide +kernel
theorem dX6_set_45 : decode cX6_set 45 = .ok (.iadd, 1) := by decide +kernel
theorem dX6_set_46 : decode cX6_set 46 = .ok (.iaload, 1) := by decide +kernel
theorem dX6_set_47 : decode cX6_set 47 = .ok (.istore 4, 2) := by decide +kernel
theorem dX6_set_49 : decode cX6_set 49 = .ok (.aload_n 0, 1) := by decide +kernel
theorem dX6_set_50 : decode cX6_set 50 = .ok (.getfield 13, 3) := by decide +kernel
theorem dX6_set_53 : decode cX6_set 53 = .ok (.iconst 4, 1) := by decide +kernel
theorem dX6_set_54 : decode cX6_set 54 = .ok (.iload_n 1, 1) := by decide +kernel
theorem dX6_set_55 : decode cX6_set 55 = .ok (.iadd, 1) := by decide +kernel
theorem dX6_set_56 : decode cX6_set 56 = .ok (.iload_n 2, 1) := by decide +kernel
theorem dX6_set_57 : decode cX6_set 57 = .ok (.iastore, 1) := by decide +kernel
theorem dX6_set_58 : decode cX6_set 58 = .ok (.iload 4, 2) := by decide +kernel
theorem dX6_set_60 : decode cX6_set 60 = .ok (.ireturn, 1) := by decide +kernel
theorem dX6_makeDouble_0 : decode cX6_makeDouble 0 = .ok (.aload_n 0, 1) := by decide +kernel
theorem dX6_makeDouble_1 : decode cX6_makeDouble 1 = .ok (.iload_n 1, 1) := by decide +kernel
theorem dX6_makeDouble_2 : decode cX6_makeDouble 2 = .ok (.invokevirtual 87, 3) := by decide +kernel
theorem dX6_makeDouble_5 : decode cX6_makeDouble 5 = .ok (.ifCond .ne 9, 3) := by decide +kernel
theorem dX6_makeDouble_8 : decode cX6_makeDouble 8 = .ok (.aload_n 0, 1) := by decide +kernel
theorem dX6_makeDouble_9 : decode cX6_makeDouble 9 = .ok (.iconst (-1), 1) := by decide +kernel
theorem dX6_makeDouble_10 : decode cX6_makeDouble 10 = .ok (.invokevirtual 50, 3) := by decide +kernel
theorem dX6_makeDouble_13 : decode cX6_makeDouble 13 = .ok (.ireturn, 1) := by decide +kernel
theorem dX6_makeDouble_14 : decode cX6_makeDouble 14 = .ok (.bipush 13, 2) := by decide +kernel
theorem dX6_makeDouble_16 : decode cX6_makeDouble 16 = .ok (.iconst 2, 1) := by decide +kernel
theorem dX6_makeDouble_17 : decode cX6_makeDouble 17 = .ok (.iload_n 1, 1) := by decide +kernel
theorem dX6_makeDouble_18 : decode cX6_makeDouble 18 = .ok (.imul, 1) := by decide +kernel
theorem dX6_makeDouble_19 : decode cX6_makeDouble 19 = .ok (.iadd, 1) := by decide +kernel
theorem dX6_makeDouble_20 : decode cX6_makeDouble 20 = .ok (.iconst 1, 1) := by decide +kernel
theorem dX6_makeDouble_21 : decode cX6_makeDouble 21 = .ok (.iadd, 1) := by decide +kernel
theorem dX6_makeDouble_22 : decode cX6_makeDouble 22 = .ok (.istore_n 3, 1) := by decide +kernel
theorem dX6_makeDouble_23 : decode cX6_makeDouble 23 = .ok (.aload_n 0, 1) := by decide +kernel
theorem dX6_makeDouble_24 : decode cX6_makeDouble 24 = .ok (.getfield 13, 3) := by decide +kernel
theorem dX6_makeDouble_27 : decode cX6_makeDouble 27 = .ok (.iload_n 3, 1) := by decide +kernel
theorem dX6_makeDouble_28 : decode cX6_makeDouble 28 = .ok (.iaload, 1) := by decide +kernel
theorem dX6_makeDouble_29 : decode cX6_makeDouble 29 = .ok (.iload_n 2, 1) := by decide +kernel
theorem dX6_makeDouble_30 : decode cX6_makeDouble 30 = .ok (.ifCond .eq 7, 3) := by decide +kernel
theorem dX6_makeDouble_33 : decode cX6_makeDouble 33 = .ok (.iconst 1, 1) := by decide +kernel
theorem dX6_makeDouble_34 : decode cX6_makeDouble 34 = .ok (.goto 4, 3) := by decide +kernel
theorem dX6_makeDouble_37 : decode cX6_makeDouble 37 = .ok (.iconst 0, 1) := by decide +kernel
theorem dX6_makeDouble_38 : decode cX6_makeDouble 38 = .ok (.if_icmp .ne 5, 3) := by decide +kernel
theorem dX6_makeDouble_41 : decode cX6_makeDouble 41 = .ok (.iconst 0, 1) := by decide +kernel
theorem dX6_makeDouble_42 : decode cX6_makeDouble 42 = .ok (.ireturn, 1) := by decide +kernel
theorem dX6_makeDouble_43 : decode cX6_makeDouble 43 = .ok (.aload_n 0, 1) := by decide +kernel
theorem dX6_makeDouble_44 : decode cX6_makeDouble 44 = .ok (.getfield 13, 3) := by decide +kernel
theorem dX6_makeDouble_47 : decode cX6_makeDouble 47 = .ok (.iload_n 3, 1) := by decide +kernel
theorem dX6_makeDouble_48 : decode cX6_makeDouble 48 = .ok (.iload_n 2, 1) := by decide +kernel
theorem dX6_makeDouble_49 : decode cX6_makeDouble 49 = .ok (.ifCond .eq 7, 3) := by decide +kernel
theorem dX6_makeDouble_52 : decode cX6_makeDouble 52 = .ok (.iconst 1, 1) := by decide +kernel
theorem dX6_makeDouble_53 : decode cX6_makeDouble 53 = .ok (.goto 4, 3) := by decide +kernel
theorem dX6_makeDouble_56 : decode cX6_makeDouble 56 = .ok (.iconst 0, 1) := by decide +kernel
theorem dX6_makeDouble_57 : decode cX6_makeDouble 57 = .ok (.iastore, 1) := by decide +kernel
theorem dX6_makeDouble_58 : decode cX6_makeDouble 58 = .ok (.iconst 1, 1) := by decide +kernel
theorem dX6_makeDouble_59 : decode cX6_makeDouble 59 = .ok (.ireturn, 1) := by decide +kernel
theorem dX6_order_0 : decode cX6_order 0 = .ok (.iload_n 1, 1) := by decide +kernel
theorem dX6_order_1 : decode cX6_order 1 = .ok (.iconst 0, 1) := by decide +kernel
theorem dX6_order_2 : decode cX6_order 2 = .ok (.bipush 8, 2) := by decide +kernel
theorem dX6_order_4 : decode cX6_order 4 = .ok (.invokestatic 99, 3) := by decide +kernel
theorem dX6_order_7 : decode cX6_order 7 = .ok (.istore_n 3, 1) := by decide +kernel
theorem dX6_order_8 : decode cX6_order 8 = .ok (.iload_n 2, 1) := by decide +kernel
theorem dX6_order_9 : decode cX6_order 9 = .ok (.istore 4, 2) := by decide +kernel
theorem dX6_order_11 : decode cX6_order 11 = .ok (.iconst 0, 1) := by decide +kernel
theorem dX6_order_12 : decode cX6_order 12 = .ok (.istore 5, 2) := by decide +kernel
theorem dX6_order_14 : decode cX6_order 14 = .ok (.iconst 0, 1) := by decide +kernel
theorem dX6_order_15 : decode cX6_order 15 = .ok (.istore 6, 2) := by decide +kernel
theorem dX6_order_17 : decode cX6_order 17 = .ok (.iload 6, 2) := by decide +kernel
theorem dX6_order_19 : decode cX6_order 19 = .ok (.iload_n 1, 1) := by decide +kernel
theorem dX6_order_20 : decode cX6_order 20 = .ok (.if_icmp .ge 61, 3) := by decide +kernel
theorem dX6_order_23 : decode cX6_order 23 = .ok (.iload_n 3, 1) := by decide +kernel
theorem dX6_order_24 : decode cX6_order 24 = .ok (.ifCond .ne 57, 3) := by decide +kernel
theorem dX6_order_27 : decode cX6_order 27 = .ok (.iload 4, 2) := by decide +kernel
theorem dX6_order_29 : decode cX6_order 29 = .ok (.bipush 10, 2) := by decide +kernel
theorem dX6_order_31 : decode cX6_order 31 = .ok (.irem, 1) := by decide +kernel
theorem dX6_order_32 : decode cX6_order 32 = .ok (.istore 7, 2) := by decide +kernel
theorem dX6_order_34 : decode cX6_order 34 = .ok (.iload 4, 2) := by decide +kernel
theorem dX6_order_36 : decode cX6_order 36 = .ok (.bipush 10, 2) := by decide +kernel
theorem dX6_order_38 : decode cX6_order 38 = .ok (.idiv, 1) := by decide +kernel
theorem dX6_order_39 : decode cX6_order 39 = .ok (.istore 4, 2) := by decide +kernel
theorem dX6_order_41 : decode cX6_order 41 = .ok (.aload_n 0, 1) := by decide +kernel
theorem dX6_order_42 : decode cX6_order 42 = .ok (.iload 7, 2) := by decide +kernel
theorem dX6_order_44 : decode cX6_order 44 = .ok (.invokevirtual 90, 3) := by decide +kernel
theorem dX6_order_47 : decode cX6_order 47 = .ok (.ifCond .eq 14, 3) := by decide +kernel
theorem dX6_order_50 : decode cX6_order 50 = .ok (.iload 5, 2) := by decide +kernel
theorem dX6_order_52 : decode cX6_order 52 = .ok (.iload 7, 2) := by decide +kernel
theorem dX6_order_54 : decode cX6_order 54 = .ok (.ishr, 1) := by decide +kernel
theorem dX6_order_55 : decode cX6_order 55 = .ok (.iconst 1, 1) := by decide +kernel
theorem dX6_order_56 : decode cX6_order 56 = .ok (.iand, 1) := by decide +kernel
theorem dX6_order_57 : decode cX6_order 57 = .ok (.iconst 1, 1) := by decide +kernel
theorem dX6_order_58 : decode cX6_order 58 = .ok (.if_icmp .ne 8, 3) := by decide +kernel
theorem dX6_order_61 : decode cX6_order 61 = .ok (.iconst (-1), 1) := by decide +kernel
theorem dX6_order_62 : decode cX6_order 62 = .ok (.istore_n 3, 1) := by decide +kernel
theorem dX6_order_63 : decode cX6_order 63 = .ok (.goto 12, 3) := by decide +kernel
theorem dX6_order_66 : decode cX6_order 66 = .ok (.iload 5, 2) := by decide +kernel
theorem dX6_order_68 : decode cX6_order 68 = .ok (.iconst 1, 1) := by decide +kernel
theorem dX6_order_69 : decode cX6_order 69 = .ok (.iload 7, 2) := by decide +kernel
theorem dX6_order_71 : decode cX6_order 71 = .ok (.ishl, 1) := by decide +kernel
theorem dX6_order_72 : decode cX6_order 72 = .ok (.ior, 1) := by decide +kernel
theorem dX6_order_73 : decode cX6_order 73 = .ok (.istore 5, 2) := by decide +kernel
theorem dX6_order_75 : decode cX6_order 75 = .ok (.iinc 6 1, 3) := by decide +kernel
theorem dX6_order_78 : decode cX6_order 78 = .ok (.goto (-61), 3) := by decide +kernel
theorem dX6_order_81 : decode cX6_order 81 = .ok (.iload_n 3, 1) := by decide +kernel
theorem dX6_order_82 : decode cX6_order 82 = .ok (.ifCond .eq 9, 3) := by decide +kernel
theorem dX6_order_85 : decode cX6_order 85 = .ok (.aload_n 0, 1) := by decide +kernel
theorem dX6_order_86 : decode cX6_order 86 = .ok (.iload_n 3, 1) := by decide +kernel
theorem dX6_order_87 : decode cX6_order 87 = .ok (.invokevirtual 50, 3) := by decide +kernel
theorem dX6_order_90 : decode cX6_order 90 = .ok (.ireturn, 1) := by decide +kernel
theorem dX6_order_91 : decode cX6_order 91 = .ok (.aload_n 0, 1) := by decide +kernel
theorem dX6_order_92 : decode cX6_order 92 = .ok (.getfield 13, 3) := by decide +kernel
theorem dX6_order_95 : decode cX6_order 95 = .ok (.iconst 3, 1) := by decide +kernel
theorem dX6_order_96 : decode cX6_order 96 = .ok (.iaload, 1) := by decide +kernel
theorem dX6_order_97 : decode cX6_order 97 = .ok (.istore 6, 2) := by decide +kernel
theorem dX6_order_99 : decode cX6_order 99 = .ok (.iload_n 2, 1) := by decide +kernel
theorem dX6_order_100 : decode cX6_order 100 = .ok (.istore 4, 2) := by decide +kernel
theorem dX6_order_102 : decode cX6_order 102 = .ok (.iconst 0, 1) := by decide +kernel
theorem dX6_order_103 : decode cX6_order 103 = .ok (.istore 7, 2) := by decide +kernel
theorem dX6_order_105 : decode cX6_order 105 = .ok (.iload 7, 2) := by decide +kernel
theorem dX6_order_107 : decode cX6_order 107 = .ok (.iload_n 1, 1) := by decide +kernel
theorem dX6_order_108 : decode cX6_order 108 = .ok (.if_icmp .ge 31, 3) := by decide +kernel
theorem dX6_order_111 : decode cX6_order 111 = .ok (.aload_n 0, 1) := by decide +kernel
theorem dX6_order_112 : decode cX6_order 112 = .ok (.getfield 13, 3) := by decide +kernel
theorem dX6_order_115 : decode cX6_order 115 = .ok (.bipush 39, 2) := by decide +kernel
theorem dX6_order_117 : decode cX6_order 117 = .ok (.iload 7, 2) := by decide +kernel
theorem dX6_order_119 : decode cX6_order 119 = .ok (.iadd, 1) := by decide +kernel
theorem dX6_order_120 : decode cX6_order 120 = .ok (.iload 4, 2) := by decide +kernel
theorem dX6_order_122 : decode cX6_order 122 = .ok (.bipush 10, 2) := by decide +kernel
theorem dX6_order_124 : decode cX6_order 124 = .ok (.irem, 1) := by decide +kernel
theorem dX6_order_125 : decode cX6_order 125 = .ok (.iastore, 1) := by decide +kernel
theorem dX6_order_126 : decode cX6_order 126 = .ok (.iload 4, 2) := by decide +kernel
theorem dX6_order_128 : decode cX6_order 128 = .ok (.bipush 10, 2) := by decide +kernel
theorem dX6_order_130 : decode cX6_order 130 = .ok (.idiv, 1) := by decide +kernel
theorem dX6_order_131 : decode cX6_order 131 = .ok (.istore 4, 2) := by decide +kernel
theorem dX6_order_133 : decode cX6_order 133 = .ok (.iinc 7 1, 3) := by decide +kernel
theorem dX6_order_136 : decode cX6_order 136 = .ok (.goto (-31), 3) := by decide +kernel
theorem dX6_order_139 : decode cX6_order 139 = .ok (.aload_n 0, 1) := by decide +kernel
theorem dX6_order_140 : decode cX6_order 140 = .ok (.getfield 13, 3) := by decide +kernel
theorem dX6_order_143 : decode cX6_order 143 = .ok (.iconst 3, 1) := by decide +kernel
theorem dX6_order_144 : decode cX6_order 144 = .ok (.iload_n 1, 1) := by decide +kernel
theorem dX6_order_145 : decode cX6_order 145 = .ok (.iastore, 1) := by decide +kernel
theorem dX6_order_146 : decode cX6_order 146 = .ok (.iload 6, 2) := by decide +kernel
theorem dX6_order_148 : decode cX6_order 148 = .ok (.ireturn, 1) := by decide +kernel
theorem dX6_edgeBy_0 : decode cX6_edgeBy 0 = .ok (.aload_n 0, 1) := by decide +kernel
theorem dX6_edgeBy_1 : decode cX6_edgeBy 1 = .ok (.getfield 13, 3) := by decide +kernel
theorem dX6_edgeBy_4 : decode cX6_edgeBy 4 = .ok (.iconst 4, 1) := by decide +kernel
theorem dX6_edgeBy_5 : decode cX6_edgeBy 5 = .ok (.iload_n 1, 1) := by decide +kernel
theorem dX6_edgeBy_6 : decode cX6_edgeBy 6 = .ok (.iadd, 1) := by decide +kernel
theorem dX6_edgeBy_7 : decode cX6_edgeBy 7 = .ok (.iaload, 1) := by decide +kernel
theorem dX6_edgeBy_8 : decode cX6_edgeBy 8 = .ok (.aload_n 0, 1) := by decide +kernel
theorem dX6_edgeBy_9 : decode cX6_edgeBy 9 = .ok (.getfield 13, 3) := by decide +kernel
theorem dX6_edgeBy_12 : decode cX6_edgeBy 12 = .ok (.bipush 10, 2) := by decide +kernel
theorem dX6_edgeBy_14 : decode cX6_edgeBy 14 = .ok (.iaload, 1) := by decide +kernel
theorem dX6_edgeBy_15 : decode cX6_edgeBy 15 = .ok (.iconst 1, 1) := by decide +kernel
theorem dX6_edgeBy_16 : decode cX6_edgeBy 16 = .ok (.if_icmp .ne 25, 3) := by decide +kernel
theorem dX6_edgeBy_19 : decode cX6_edgeBy 19 = .ok (.aload_n 0, 1) := by decide +kernel
theorem dX6_edgeBy_20 : decode cX6_edgeBy 20 = .ok (.getfield 13, 3) := by decide +kernel
theorem dX6_edgeBy_23 : decode cX6_edgeBy 23 = .ok (.iconst 4, 1) := by decide +kernel
theorem dX6_edgeBy_24 : decode cX6_edgeBy 24 = .ok (.iload_n 1, 1) := by decide +kernel
theorem dX6_edgeBy_25 : decode cX6_edgeBy 25 = .ok (.iadd, 1) := by decide +kernel
theorem dX6_edgeBy_26 : decode cX6_edgeBy 26 = .ok (.iaload, 1) := by decide +kernel
theorem dX6_edgeBy_27 : decode cX6_edgeBy 27 = .ok (.aload_n 0, 1) := by decide +kernel
theorem dX6_edgeBy_28 : decode cX6_edgeBy 28 = .ok (.getfield 13, 3) := by decide +kernel
theorem dX6_edgeBy_31 : decode cX6_edgeBy 31 = .ok (.bipush 6, 2) := by decide +kernel
theorem dX6_edgeBy_33 : decode cX6_edgeBy 33 = .ok (.iaload, 1) := by decide +kernel
theorem dX6_edgeBy_34 : decode cX6_edgeBy 34 = .ok (.imul, 1) := by decide +kernel
theorem dX6_edgeBy_35 : decode cX6_edgeBy 35 = .ok (.bipush 100, 2) := by decide +kernel
theorem dX6_edgeBy_37 : decode cX6_edgeBy 37 = .ok (.idiv, 1) := by decide +kernel
theorem dX6_edgeBy_38 : decode cX6_edgeBy 38 = .ok (.goto 4, 3) := by decide +kernel
theorem dX6_edgeBy_41 : decode cX6_edgeBy 41 = .ok (.iconst 0, 1) := by decide +kernel
theorem dX6_edgeBy_42 : decode cX6_edgeBy 42 = .ok (.isub, 1) := by decide +kernel
theorem dX6_edgeBy_43 : decode cX6_edgeBy 43 = .ok (.ireturn, 1) := by decide +kernel
theorem dX6_kindBy_0 : decode cX6_kindBy 0 = .ok (.iload_n 1, 1) := by decide +kernel
theorem dX6_kindBy_1 : decode cX6_kindBy 1 = .ok (.aload_n 0, 1) := by decide +kernel
theorem dX6_kindBy_2 : decode cX6_kindBy 2 = .ok (.iconst 0, 1) := by decide +kernel
theorem dX6_kindBy_3 : decode cX6_kindBy 3 = .ok (.invokevirtual 103, 3) := by decide +kernel
theorem dX6_kindBy_6 : decode cX6_kindBy 6 = .ok (.if_icmp .gt 5, 3) := by decide +kernel
theorem dX6_kindBy_9 : decode cX6_kindBy 9 = .ok (.iconst 0, 1) := by decide +kernel
theorem dX6_kindBy_10 : decode cX6_kindBy 10 = .ok (.ireturn, 1) := by decide +kernel
theorem dX6_kindBy_11 : decode cX6_kindBy 11 = .ok (.iload_n 1, 1) := by decide +kernel
theorem dX6_kindBy_12 : decode cX6_kindBy 12 = .ok (.aload_n 0, 1) := by decide +kernel
theorem dX6_kindBy_13 : decode cX6_kindBy 13 = .ok (.iconst 1, 1) := by decide +kernel
theorem dX6_kindBy_14 : decode cX6_kindBy 14 = .ok (.invokevirtual 103, 3) := by decide +kernel
theorem dX6_kindBy_17 : decode cX6_kindBy 17 = .ok (.if_icmp .gt 5, 3) := by decide +kernel
theorem dX6_kindBy_20 : decode cX6_kindBy 20 = .ok (.iconst 1, 1) := by decide +kernel
theorem dX6_kindBy_21 : decode cX6_kindBy 21 = .ok (.ireturn, 1) := by decide +kernel
theorem dX6_kindBy_22 : decode cX6_kindBy 22 = .ok (.iload_n 1, 1) := by decide +kernel
theorem dX6_kindBy_23 : decode cX6_kindBy 23 = .ok (.iconst 1, 1) := by decide +kernel
theorem dX6_kindBy_24 : decode cX6_kindBy 24 = .ok (.iadd, 1) := by decide +kernel
theorem dX6_kindBy_25 : decode cX6_kindBy 25 = .ok (.iconst 2, 1) := by decide +kernel
theorem dX6_kindBy_26 : decode cX6_kindBy 26 = .ok (.idiv, 1) := by decide +kernel
theorem dX6_kindBy_27 : decode cX6_kindBy 27 = .ok (.aload_n 0, 1) := by decide +kernel
theorem dX6_kindBy_28 : decode cX6_kindBy 28 = .ok (.iconst 1, 1) := by decide +kernel
theorem dX6_kindBy_29 : decode cX6_kindBy 29 = .ok (.invokevirtual 103, 3) := by decide +kernel
theorem dX6_kindBy_32 : decode cX6_kindBy 32 = .ok (.if_icmp .gt 7, 3) := by decide +kernel
theorem dX6_kindBy_35 : decode cX6_kindBy 35 = .ok (.iconst 2, 1) := by decide +kernel
theorem dX6_kindBy_36 : decode cX6_kindBy 36 = .ok (.goto 4, 3) := by decide +kernel
theorem dX6_kindBy_39 : decode cX6_kindBy 39 = .ok (.iconst 3, 1) := by decide +kernel
theorem dX6_kindBy_40 : decode cX6_kindBy 40 = .ok (.ireturn, 1) := by decide +kernel
theorem dX6_weight_0 : decode cX6_weight 0 = .ok (.aload_n 0, 1) := by decide +kernel
theorem dX6_weight_1 : decode cX6_weight 1 = .ok (.getfield 13, 3) := by decide +kernel
theorem dX6_weight_4 : decode cX6_weight 4 = .ok (.bipush 23, 2) := by decide +kernel
theorem dX6_weight_6 : decode cX6_weight 6 = .ok (.iconst 2, 1) := by decide +kernel
theorem dX6_weight_7 : decode cX6_weight 7 = .ok (.iload_n 1, 1) := by decide +kernel
theorem dX6_weight_8 : decode cX6_weight 8 = .ok (.imul, 1) := by decide +kernel
theorem dX6_weight_9 : decode cX6_weight 9 = .ok (.iadd, 1) := by decide +kernel
theorem dX6_weight_10 : decode cX6_weight 10 = .ok (.iconst 1, 1) := by decide +kernel
theorem dX6_weight_11 : decode cX6_weight 11 = .ok (.iadd, 1) := by decide +kernel
theorem dX6_weight_12 : decode cX6_weight 12 = .ok (.iaload, 1) := by decide +kernel
theorem dX6_weight_13 : decode cX6_weight 13 = .ok (.ireturn, 1) := by decide +kernel
theorem dX6_comesAt_0 : decode cX6_comesAt 0 = .ok (.aload_n 0, 1) := by decide +kernel
theorem dX6_comesAt_1 : decode cX6_comesAt 1 = .ok (.getfield 13, 3) := by decide +kernel
theorem dX6_comesAt_4 : decode cX6_comesAt 4 = .ok (.bipush 23, 2) := by decide +kernel
theorem dX6_comesAt_6 : decode cX6_comesAt 6 = .ok (.iconst 2, 1) := by decide +kernel
theorem dX6_comesAt_7 : decode cX6_comesAt 7 = .ok (.iload_n 1, 1) := by decide +kernel
theorem dX6_comesAt_8 : decode cX6_comesAt 8 = .ok (.imul, 1) := by decide +kernel
theorem dX6_comesAt_9 : decode cX6_comesAt 9 = .ok (.iadd, 1) := by decide +kernel
theorem dX6_comesAt_10 : decode cX6_comesAt 10 = .ok (.iaload, 1) := by decide +kernel
theorem dX6_comesAt_11 : decode cX6_comesAt 11 = .ok (.ireturn, 1) := by decide +kernel
theorem dX6_kindOf_0 : decode cX6_kindOf 0 = .ok (.aload_n 0, 1) := by decide +kernel
theorem dX6_kindOf_1 : decode cX6_kindOf 1 = .ok (.aload_n 0, 1) := by decide +kernel
theorem dX6_kindOf_2 : decode cX6_kindOf 2 = .ok (.iload_n 1, 1) := by decide +kernel
theorem dX6_kindOf_3 : decode cX6_kindOf 3 = .ok (.invokevirtual 106, 3) := by decide +kernel
theorem dX6_kindOf_6 : decode cX6_kindOf 6 = .ok (.invokevirtual 109, 3) := by decide +kernel
theorem dX6_kindOf_9 : decode cX6_kindOf 9 = .ok (.ireturn, 1) := by decide +kernel
theorem dX6_climbs_0 : decode cX6_climbs 0 = .ok (.aload_n 0, 1) := by decide +kernel
theorem dX6_climbs_1 : decode cX6_climbs 1 = .ok (.iload_n 1, 1) := by decide +kernel
theorem dX6_climbs_2 : decode cX6_climbs 2 = .ok (.invokevirtual 90, 3) := by decide +kernel
theorem dX6_climbs_5 : decode cX6_climbs 5 = .ok (.ifCond .eq 11, 3) := by decide +kernel
theorem dX6_climbs_8 : decode cX6_climbs 8 = .ok (.aload_n 0, 1) := by decide +kernel
theorem dX6_climbs_9 : decode cX6_climbs 9 = .ok (.iload_n 1, 1) := by decide +kernel
theorem dX6_climbs_10 : decode cX6_climbs 10 = .ok (.invokevirtual 112, 3) := by decide +kernel
theorem dX6_climbs_13 : decode cX6_climbs 13 = .ok (.goto 8, 3) := by decide +kernel
theorem dX6_climbs_16 : decode cX6_climbs 16 = .ok (.aload_n 0, 1) := by decide +kernel
theorem dX6_climbs_17 : decode cX6_climbs 17 = .ok (.iconst (-1), 1) := by decide +kernel
theorem dX6_climbs_18 : decode cX6_climbs 18 = .ok (.invokevirtual 50, 3) := by decide +kernel
theorem dX6_climbs_21 : decode cX6_climbs 21 = .ok (.ireturn, 1) := by decide +kernel
theorem dX6_baseOf_0 : decode cX6_baseOf 0 = .ok (.iconst 0, 1) := by decide +kernel
theorem dX6_baseOf_1 : decode cX6_baseOf 1 = .ok (.istore_n 1, 1) := by decide +kernel
theorem dX6_baseOf_2 : decode cX6_baseOf 2 = .ok (.iconst 0, 1) := by decide +kernel
theorem dX6_baseOf_3 : decode cX6_baseOf 3 = .ok (.istore_n 2, 1) := by decide +kernel
theorem dX6_baseOf_4 : decode cX6_baseOf 4 = .ok (.iload_n 2, 1) := by decide +kernel
theorem dX6_baseOf_5 : decode cX6_baseOf 5 = .ok (.aload_n 0, 1) := by decide +kernel
theorem dX6_baseOf_6 : decode cX6_baseOf 6 = .ok (.getfield 13, 3) := by decide +kernel
theorem dX6_baseOf_9 : decode cX6_baseOf 9 = .ok (.iconst 0, 1) := by decide +kernel
theorem dX6_baseOf_10 : decode cX6_baseOf 10 = .ok (.iaload, 1) := by decide +kernel
theorem dX6_baseOf_11 : decode cX6_baseOf 11 = .ok (.if_icmp .ge 23, 3) := by decide +kernel
theorem dX6_baseOf_14 : decode cX6_baseOf 14 = .ok (.iload_n 1, 1) := by decide +kernel
theorem dX6_baseOf_15 : decode cX6_baseOf 15 = .ok (.aload_n 0, 1) := by decide +kernel
theorem dX6_baseOf_16 : decode cX6_baseOf 16 = .ok (.getfield 13, 3) := by decide +kernel
theorem dX6_baseOf_19 : decode cX6_baseOf 19 = .ok (.bipush 13, 2) := by decide +kernel
theorem dX6_baseOf_21 : decode cX6_baseOf 21 = .ok (.iconst 2, 1) := by decide +kernel
theorem dX6_baseOf_22 : decode cX6_baseOf 22 = .ok (.iload_n 2, 1) := by decide +kernel
theorem dX6_baseOf_23 : decode cX6_baseOf 23 = .ok (.imul, 1) := by decide +kernel
theorem dX6_baseOf_24 : decode cX6_baseOf 24 = .ok (.iadd, 1) := by decide +kernel
theorem dX6_baseOf_25 : decode cX6_baseOf 25 = .ok (.iaload, 1) := by decide +kernel
theorem dX6_baseOf_26 : decode cX6_baseOf 26 = .ok (.iadd, 1) := by decide +kernel
theorem dX6_baseOf_27 : decode cX6_baseOf 27 = .ok (.istore_n 1, 1) := by decide +kernel
theorem dX6_baseOf_28 : decode cX6_baseOf 28 = .ok (.iinc 2 1, 3) := by decide +kernel
theorem dX6_baseOf_31 : decode cX6_baseOf 31 = .ok (.goto (-27), 3) := by decide +kernel
theorem dX6_baseOf_34 : decode cX6_baseOf 34 = .ok (.iload_n 1, 1) := by decide +kernel
theorem dX6_baseOf_35 : decode cX6_baseOf 35 = .ok (.ireturn, 1) := by decide +kernel
theorem dX6_base_0 : decode cX6_base 0 = .ok (.aload_n 0, 1) := by decide +kernel
theorem dX6_base_1 : decode cX6_base 1 = .ok (.invokevirtual 115, 3) := by decide +kernel
theorem dX6_base_4 : decode cX6_base 4 = .ok (.ireturn, 1) := by decide +kernel
theorem dX6_takesOf_0 : decode cX6_takesOf 0 = .ok (.aload_n 0, 1) := by decide +kernel
theorem dX6_takesOf_1 : decode cX6_takesOf 1 = .ok (.getfield 13, 3) := by decide +kernel
theorem dX6_takesOf_4 : decode cX6_takesOf 4 = .ok (.bipush 7, 2) := by decide +kernel
theorem dX6_takesOf_6 : decode cX6_takesOf 6 = .ok (.iaload, 1) := by decide +kernel
theorem dX6_takesOf_7 : decode cX6_takesOf 7 = .ok (.aload_n 0, 1) := by decide +kernel
theorem dX6_takesOf_8 : decode cX6_takesOf 8 = .ok (.invokevirtual 115, 3) := by decide +kernel
theorem dX6_takesOf_11 : decode cX6_takesOf 11 = .ok (.iadd, 1) := by decide +kernel
theorem dX6_takesOf_12 : decode cX6_takesOf 12 = .ok (.aload_n 0, 1) := by decide +kernel
theorem dX6_takesOf_13 : decode cX6_takesOf 13 = .ok (.getfield 13, 3) := by decide +kernel
theorem dX6_takesOf_16 : decode cX6_takesOf 16 = .ok (.bipush 8, 2) := by decide +kernel
theorem dX6_takesOf_18 : decode cX6_takesOf 18 = .ok (.iaload, 1) := by decide +kernel
theorem dX6_takesOf_19 : decode cX6_takesOf 19 = .ok (.iadd, 1) := by decide +kernel
theorem dX6_takesOf_20 : decode cX6_takesOf 20 = .ok (.istore_n 2, 1) := by decide +kernel
theorem dX6_takesOf_21 : decode cX6_takesOf 21 = .ok (.aload_n 0, 1) := by decide +kernel
theorem dX6_takesOf_22 : decode cX6_takesOf 22 = .ok (.iload_n 1, 1) := by decide +kernel
theorem dX6_takesOf_23 : decode cX6_takesOf 23 = .ok (.invokevirtual 112, 3) := by decide +kernel
theorem dX6_takesOf_26 : decode cX6_takesOf 26 = .ok (.tableswitch 42 0 2 #[26, 31, 33], 26) := by decide +kernel
theorem dX6_takesOf_52 : decode cX6_takesOf 52 = .ok (.aload_n 0, 1) := by decide +kernel
theorem dX6_takesOf_53 : decode cX6_takesOf 53 = .ok (.invokevirtual 115, 3) := by decide +kernel
theorem dX6_takesOf_56 : decode cX6_takesOf 56 = .ok (.ireturn, 1) := by decide +kernel
theorem dX6_takesOf_57 : decode cX6_takesOf 57 = .ok (.iload_n 2, 1) := by decide +kernel
theorem dX6_takesOf_58 : decode cX6_takesOf 58 = .ok (.ireturn, 1) := by decide +kernel
theorem dX6_takesOf_59 : decode cX6_takesOf 59 = .ok (.iconst 2, 1) := by decide +kernel
theorem dX6_takesOf_60 : decode cX6_takesOf 60 = .ok (.iload_n 2, 1) := by decide +kernel
theorem dX6_takesOf_61 : decode cX6_takesOf 61 = .ok (.imul, 1) := by decide +kernel
theorem dX6_takesOf_62 : decode cX6_takesOf 62 = .ok (.aload_n 0, 1) := by decide +kernel
theorem dX6_takesOf_63 : decode cX6_takesOf 63 = .ok (.invokevirtual 115, 3) := by decide +kernel
theorem dX6_takesOf_66 : decode cX6_takesOf 66 = .ok (.iadd, 1) := by decide +kernel
theorem dX6_takesOf_67 : decode cX6_takesOf 67 = .ok (.ireturn, 1) := by decide +kernel
theorem dX6_takesOf_68 : decode cX6_takesOf 68 = .ok (.bipush (-9), 2) := by decide +kernel
theorem dX6_takesOf_70 : decode cX6_takesOf 70 = .ok (.ireturn, 1) := by decide +kernel
theorem dX6_takes_0 : decode cX6_takes 0 = .ok (.aload_n 0, 1) := by decide +kernel
theorem dX6_takes_1 : decode cX6_takes 1 = .ok (.iload_n 1, 1) := by decide +kernel
theorem dX6_takes_2 : decode cX6_takes 2 = .ok (.invokevirtual 90, 3) := by decide +kernel
theorem dX6_takes_5 : decode cX6_takes 5 = .ok (.ifCond .eq 11, 3) := by decide +kernel
theorem dX6_takes_8 : decode cX6_takes 8 = .ok (.aload_n 0, 1) := by decide +kernel
theorem dX6_takes_9 : decode cX6_takes 9 = .ok (.iload_n 1, 1) := by decide +kernel
theorem dX6_takes_10 : decode cX6_takes 10 = .ok (.invokevirtual 118, 3) := by decide +kernel
theorem dX6_takes_13 : decode cX6_takes 13 = .ok (.goto 8, 3) := by decide +kernel
theorem dX6_takes_16 : decode cX6_takes 16 = .ok (.aload_n 0, 1) := by decide +kernel
theorem dX6_takes_17 : decode cX6_takes 17 = .ok (.iconst (-1), 1) := by decide +kernel
theorem dX6_takes_18 : decode cX6_takes 18 = .ok (.invokevirtual 50, 3) := by decide +kernel
theorem dX6_takes_21 : decode cX6_takes 21 = .ok (.ireturn, 1) := by decide +kernel
theorem dX6_opens_0 : decode cX6_opens 0 = .ok (.iconst 0, 1) := by decide +kernel
theorem dX6_opens_1 : decode cX6_opens 1 = .ok (.istore_n 1, 1) := by decide +kernel
theorem dX6_opens_2 : decode cX6_opens 2 = .ok (.iload_n 1, 1) := by decide +kernel
theorem dX6_opens_3 : decode cX6_opens 3 = .ok (.bipush 8, 2) := by decide +kernel
theorem dX6_opens_5 : decode cX6_opens 5 = .ok (.if_icmp .ge 25, 3) := by decide +kernel
theorem dX6_opens_8 : decode cX6_opens 8 = .ok (.aload_n 0, 1) := by decide +kernel
theorem dX6_opens_9 : decode cX6_opens 9 = .ok (.getfield 28, 3) := by decide +kernel
theorem dX6_opens_12 : decode cX6_opens 12 = .ok (.iload_n 1, 1) := by decide +kernel
theorem dX6_opens_13 : decode cX6_opens 13 = .ok (.bipush (-9), 2) := by decide +kernel
theorem dX6_opens_15 : decode cX6_opens 15 = .ok (.iastore, 1) := by decide +kernel
theorem dX6_opens_16 : decode cX6_opens 16 = .ok (.aload_n 0, 1) := by decide +kernel
theorem dX6_opens_17 : decode cX6_opens 17 = .ok (.getfield 34, 3) := by decide +kernel
theorem dX6_opens_20 : decode cX6_opens 20 = .ok (.iload_n 1, 1) := by decide +kernel
theorem dX6_opens_21 : decode cX6_opens 21 = .ok (.bipush (-9), 2) := by decide +kernel
theorem dX6_opens_23 : decode cX6_opens 23 = .ok (.iastore, 1) := by decide +kernel
theorem dX6_opens_24 : decode cX6_opens 24 = .ok (.iinc 1 1, 3) := by decide +kernel
theorem dX6_opens_27 : decode cX6_opens 27 = .ok (.goto (-25), 3) := by decide +kernel
theorem dX6_opens_30 : decode cX6_opens 30 = .ok (.aload_n 0, 1) := by decide +kernel
theorem dX6_opens_31 : decode cX6_opens 31 = .ok (.aload_n 0, 1) := by decide +kernel
theorem dX6_opens_32 : decode cX6_opens 32 = .ok (.getfield 13, 3) := by decide +kernel
theorem dX6_opens_35 : decode cX6_opens 35 = .ok (.iconst 2, 1) := by decide +kernel
theorem dX6_opens_36 : decode cX6_opens 36 = .ok (.iaload, 1) := by decide +kernel
theorem dX6_opens_37 : decode cX6_opens 37 = .ok (.putfield 121, 3) := by decide +kernel
theorem dX6_opens_40 : decode cX6_opens 40 = .ok (.aload_n 0, 1) := by decide +kernel
theorem dX6_opens_41 : decode cX6_opens 41 = .ok (.iconst 0, 1) := by decide +kernel
theorem dX6_opens_42 : decode cX6_opens 42 = .ok (.putfield 124, 3) := by decide +kernel
theorem dX6_opens_45 : decode cX6_opens 45 = .ok (.aload_n 0, 1) := by decide +kernel
theorem dX6_opens_46 : decode cX6_opens 46 = .ok (.iconst 0, 1) := by decide +kernel
theorem dX6_opens_47 : decode cX6_opens 47 = .ok (.putfield 127, 3) := by decide +kernel
theorem dX6_opens_50 : decode cX6_opens 50 = .ok (.aload_n 0, 1) := by decide +kernel
theorem dX6_opens_51 : decode cX6_opens 51 = .ok (.sipush (-9999), 3) := by decide +kernel
theorem dX6_opens_54 : decode cX6_opens 54 = .ok (.putfield 130, 3) := by decide +kernel
theorem dX6_opens_57 : decode cX6_opens 57 = .ok (.aload_n 0, 1) := by decide +kernel
theorem dX6_opens_58 : decode cX6_opens 58 = .ok (.sipush (-9999), 3) := by decide +kernel
theorem dX6_opens_61 : decode cX6_opens 61 = .ok (.putfield 133, 3) := by decide +kernel
theorem dX6_opens_64 : decode cX6_opens 64 = .ok (.aload_n 0, 1) := by decide +kernel
theorem dX6_opens_65 : decode cX6_opens 65 = .ok (.iconst 0, 1) := by decide +kernel
theorem dX6_opens_66 : decode cX6_opens 66 = .ok (.putfield 136, 3) := by decide +kernel
theorem dX6_opens_69 : decode cX6_opens 69 = .ok (.iconst 0, 1) := by decide +kernel
theorem dX6_opens_70 : decode cX6_opens 70 = .ok (.istore_n 1, 1) := by decide +kernel
theorem dX6_opens_71 : decode cX6_opens 71 = .ok (.iload_n 1, 1) := by decide +kernel
theorem dX6_opens_72 : decode cX6_opens 72 = .ok (.bipush 6, 2) := by decide +kernel
theorem dX6_opens_74 : decode cX6_opens 74 = .ok (.if_icmp .ge 17, 3) := by decide +kernel
theorem dX6_opens_77 : decode cX6_opens 77 = .ok (.aload_n 0, 1) := by decide +kernel
theorem dX6_opens_78 : decode cX6_opens 78 = .ok (.getfield 31, 3) := by decide +kernel
theorem dX6_opens_81 : decode cX6_opens 81 = .ok (.iload_n 1, 1) := by decide +kernel
theorem dX6_opens_82 : decode cX6_opens 82 = .ok (.bipush (-9), 2) := by decide +kernel
theorem dX6_opens_84 : decode cX6_opens 84 = .ok (.iastore, 1) := by decide +kernel
theorem dX6_opens_85 : decode cX6_opens 85 = .ok (.iinc 1 1, 3) := by decide +kernel
theorem dX6_opens_88 : decode cX6_opens 88 = .ok (.goto (-17), 3) := by decide +kernel
theorem dX6_opens_91 : decode cX6_opens 91 = .ok (.return_, 1) := by decide +kernel
theorem dX6_ends_0 : decode cX6_ends 0 = .ok (.iconst 0, 1) := by decide +kernel
theorem dX6_ends_1 : decode cX6_ends 1 = .ok (.istore_n 2, 1) := by decide +kernel
theorem dX6_ends_2 : decode cX6_ends 2 = .ok (.iload_n 2, 1) := by decide +kernel
theorem dX6_ends_3 : decode cX6_ends 3 = .ok (.aload_n 0, 1) := by decide +kernel
